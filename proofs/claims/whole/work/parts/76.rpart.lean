theorem c_nmR {γ : GT} {d : Nat} {g v : Int} {h : Nat → Nat → Int} {τ : List AC} {Post : Option AV → List AC → Prop} (e : h 123 23 = v) (kQ : Post (some (vI (nmF v g))) (mk h τ)) : Cj γ mX9_nameOf d 0 0 [vA 123, vI g] (mk h τ) Post := c_X9_nameOf (Nat.zero_le _) e kQ
theorem lf_v2 {B : Nat → Int} {n K o : Nat} {h0 : Nat → Nat → Int} {t : Tk} {W C : List Int} {T : Nat → Bool} {h : Nat → Nat → Int} {v : Int} (r : RES B n K h0 h t W C o T) (hv : h 123 21 = v) (hk : rtk t = 2) : lfc B ((K : Nat) : Int) t = v := by
  have q := (rtk_2 t).mp hk
  rw [lf_nT q.1 q.2, ← hv]
  exact (r.1.2.2.2.2.2.2.1 q.1 q.2).symm
theorem lf_v1 {B : Nat → Int} {n K o : Nat} {h0 : Nat → Nat → Int} {t : Tk} {W C : List Int} {T : Nat → Bool} {h : Nat → Nat → Int} {v : Int} (r : RES B n K h0 h t W C o T) (hv : h 123 21 = v) (hk : rtk t = 1) (hl : ((t.2.2 : Nat) : Int) - ((t.2.1 : Nat) : Int) = 1) (hn : 0 ≤ nmF ((K : Nat) : Int) v) : lfc B ((K : Nat) : Int) t = 10000 + nmF ((K : Nat) : Int) v := by
  have q := (rtk_1 t).mp hk
  have e : v = B t.2.1 := hv ▸ r.1.2.2.2.2.2.1 (Or.inl q)
  subst e
  unfold lfc
  rw [if_neg (by omega), if_pos ⟨by omega, hn⟩]
theorem lf_no {B : Nat → Int} {n K o : Nat} {h0 : Nat → Nat → Int} {t : Tk} {W C : List Int} {T : Nat → Bool} {h : Nat → Nat → Int} {v : Int} (r : RES B n K h0 h t W C o T) (hv : h 123 21 = v) (hk : t.1 = 1 ∨ t.1 = 2) (hl : ¬ lfc B ((K : Nat) : Int) t = -1) (hx : ¬ rtk t = 2 ∧ ¬ (rtk t = 1 ∧ ((t.2.2 : Nat) : Int) - ((t.2.1 : Nat) : Int) = 1 ∧ 0 ≤ nmF ((K : Nat) : Int) v)) : False := by
  rcases hk with q | q
  · have e : v = B t.2.1 := hv ▸ r.1.2.2.2.2.2.1 (Or.inl q)
    subst e
    have h1 := (rtk_1 t).mpr q
    unfold lfc at hl
    rw [if_neg (by omega)] at hl
    by_cases c : t.2.2 - t.2.1 = 1 ∧ 0 ≤ nmF ((K : Nat) : Int) (B t.2.1)
    · exact hx.2 ⟨h1, by omega, c.2⟩
    · rw [if_neg c] at hl; exact hl rfl
  · have h2 : ¬ (t.1 = 2 ∧ t.2.2 - t.2.1 ≤ 4) := fun c => hx.1 ((rtk_2 t).mpr c)
    rw [lf_nF q (fun c => h2 ⟨q, c⟩)] at hl
    exact hl rfl
set_option maxHeartbeats 8000000 in
theorem c_partT {γ : GT} {d : Nat} {B : Nat → Int} {n K o : Nat} {h0 : Nat → Nat → Int} {t : Tk} {W C : List Int} {T : Nat → Bool} {h : Nat → Nat → Int} {τ : List AC} {Post : Option AV → List AC → Prop} (hd : 3 ≤ d) (hm : n ≤ 96) (hBr : ∀ k, 0 ≤ B k ∧ B k ≤ 255) (hK3 : K < 3) (r : RES B n K h0 h t W C o T) (hb : W.length + C.length < 96) (hr : wrW W) (hk : t.1 = 1 ∨ t.1 = 2) (hl : ¬ lfc B ((K : Nat) : Int) t = -1) (kT : ∀ h', RES B n K h0 h' (nxt B n t) (W.dropWhile isNt) (C ++ [lfc B ((K : Nat) : Int) t] ++ W.takeWhile isNt) o T → Post (some (vI 1)) (mk h' τ)) : Cj γ mX9_takesPart d 0 0 [vA 123] (mk h τ) Post := by
  have hlv : lvs C ≤ C.length := List.countP_le_length
  have hlr := (lfc_rng (K := ((K : Nat) : Int)) r.1.2.2.2.2.2.2.2.2.2).resolve_left hl
  obtain ⟨v, hv⟩ : ∃ v, h 123 21 = v := ⟨_, rfl⟩
  have hnr := nmF_rng ((K : Nat) : Int) v
  have hvl := r.1.2.2.2.2.2.2.2.2.2.1
  have hvn := r.1.2.2.2.2.2.2.2.2.2.2.1
  refine c_of (by decide) (Nat.le_of_ble_eq_true rfl) ?_
  show Aj γ mX9_takesPart d 0 0 Post 0 [(0, vA 123)] [] (mk h τ)
  refine a_aload_n (j := 0) dX9_takesPart_0 rfl rfl (Nat.le_of_ble_eq_true rfl) ?_
  refine b_get (a := 123) (z := (rtk t)) (t := 0) dX9_takesPart_1 fwX9_241 (by decide) rfl (by decide) rfl rfl r.1.2.2.2.2.1 ?_
  refine a_iconst dX9_takesPart_4 ⟨by decide, by decide⟩ ?_
  refine a_icmp_ne (tgt := 36) dX9_takesPart_5 (by decide) (fun c5_1 => ?_) (fun c5_1 => ?_)
  · refine a_iconst dX9_takesPart_36 ⟨by decide, by decide⟩ ?_
    refine a_istore_n (lv' := [(1, vI 0), (0, vA 123)]) dX9_takesPart_37 rfl (by decide) rfl ?_
    refine a_aload_n (j := 1) dX9_takesPart_38 rfl rfl (Nat.le_of_ble_eq_true rfl) ?_
    refine b_get (a := 123) (z := (rtk t)) (t := 0) dX9_takesPart_39 fwX9_241 (by decide) rfl (by decide) rfl rfl r.1.2.2.2.2.1 ?_
    refine a_iconst dX9_takesPart_42 ⟨by decide, by decide⟩ ?_
    refine a_icmp_eq (tgt := 52) dX9_takesPart_43 (by decide) (fun c43_2 => ?_) (fun c43_2 => ?_)
    · refine a_aload_n (j := 1) dX9_takesPart_52 rfl rfl (Nat.le_of_ble_eq_true rfl) ?_
      refine b_getp (a := 123) (p := 140) dX9_takesPart_53 fwX9_60 (by decide) rfl (by decide) rfl rfl ?_
      refine a_aload_n (j := 1) dX9_takesPart_56 rfl rfl (Nat.le_of_ble_eq_true rfl) ?_
      refine b_get (a := 123) (z := ((C.length : Nat) : Int)) (t := 0) dX9_takesPart_57 fwX9_265 (by decide) rfl (by decide) rfl rfl r.2.1.2.1 ?_
      refine a_aload_n (j := 1) dX9_takesPart_60 rfl rfl (Nat.le_of_ble_eq_true rfl) ?_
      refine b_get (a := 123) (z := (rtk t)) (t := 0) dX9_takesPart_61 fwX9_241 (by decide) rfl (by decide) rfl rfl r.1.2.2.2.2.1 ?_
      refine a_iconst dX9_takesPart_64 ⟨by decide, by decide⟩ ?_
      refine a_icmp_ne (tgt := 75) dX9_takesPart_65 (by decide) (fun c65_3 => absurd c65_3 (by omega)) (fun c65_3 => ?_)
      refine a_aload_n (j := 1) dX9_takesPart_68 rfl rfl (Nat.le_of_ble_eq_true rfl) ?_
      refine b_get (a := 123) (z := v) (t := 0) dX9_takesPart_69 fwX9_247 (by decide) rfl (by decide) rfl rfl hv ?_
      refine a_goto (tgt := 87) dX9_takesPart_72 (by decide) ?_
      refine b_iastore (a := 140) C.length dX9_takesPart_87 (by decide) rfl rfl (by omega) (sp_nil rfl _) ?_
      refine a_aload_n (j := 1) dX9_takesPart_88 rfl rfl (Nat.le_of_ble_eq_true rfl) ?_
      refine a_dup dX9_takesPart_89 (fun h => nomatch h) ?_
      refine b_get (a := 123) (z := ((C.length : Nat) : Int)) (t := 0) dX9_takesPart_90 fwX9_265 (by decide) rfl (by decide) rfl rfl ((up2_ne (by omega)).trans r.2.1.2.1) ?_
      refine a_iconst dX9_takesPart_93 ⟨by decide, by decide⟩ ?_
      refine a_iadd (z := (((C.length : Nat) : Int) + 1)) dX9_takesPart_94 (w_ok (by omega) (by omega)) ?_
      refine b_put (a := 123) (v := vI (((C.length : Nat) : Int) + 1)) dX9_takesPart_95 pwX9_265 (fun h => nomatch h) (by decide) rfl (by decide) rfl rfl (fit_int _) ?_
      show Aj γ mX9_takesPart d 0 0 Post 98 [(1, vI 0), (0, vA 123)] [] (mk (up2 (up2 h 140 C.length v) 123 27 (((C.length : Nat) : Int) + 1)) τ)
      refine a_aload_n (j := 1) dX9_takesPart_98 rfl rfl (Nat.le_of_ble_eq_true rfl) ?_
      refine a_dup dX9_takesPart_99 (fun h => nomatch h) ?_
      refine b_get (a := 123) (z := ((lvs C : Nat) : Int)) (t := 0) dX9_takesPart_100 fwX9_271 (by decide) rfl (by decide) rfl rfl ((up2_ne (by omega)).trans ((up2_ne (by omega)).trans r.2.2.2.1)) ?_
      refine a_iconst dX9_takesPart_103 ⟨by decide, by decide⟩ ?_
      refine a_iadd (z := (((lvs C : Nat) : Int) + 1)) dX9_takesPart_104 (w_ok (by omega) (by omega)) ?_
      refine b_put (a := 123) (v := vI (((lvs C : Nat) : Int) + 1)) dX9_takesPart_105 pwX9_271 (fun h => nomatch h) (by decide) rfl (by decide) rfl rfl (fit_int _) ?_
      show Aj γ mX9_takesPart d 0 0 Post 108 [(1, vI 0), (0, vA 123)] [] (mk (up2 (up2 (up2 h 140 C.length v) 123 27 (((C.length : Nat) : Int) + 1)) 123 28 (((lvs C : Nat) : Int) + 1)) τ)
      have hcd : v = lfc B ((K : Nat) : Int) t := (lf_v2 r hv (by omega)).symm
      rw [hcd]
      have r2 := RES_leaf (x := lfc B ((K : Nat) : Int) t) (by omega) r
      generalize up2 (up2 (up2 h 140 C.length (lfc B ((K : Nat) : Int) t)) 123 27 (((C.length : Nat) : Int) + 1)) 123 28 (((lvs C : Nat) : Int) + 1) = h2 at r2 ⊢
      rw [← tdw (W := W)] at r2
      refine a_aload_n (j := 1) dX9_takesPart_108 rfl rfl (Nat.le_of_ble_eq_true rfl) ?_
      refine a_bipush dX9_takesPart_109 ⟨by decide, by decide, by decide⟩ ?_
      refine b_callV (d' := d - 1) (mc' := 0) (ms' := 0) (mc1 := 0) (ms1 := 0) (st := []) (b := 123) [vI 6] dX9_takesPart_111 mwX9_settle lkX9_274 (by decide) rfl rc_X9 rfl (Nat.le_of_ble_eq_true rfl) (by omega) rfl rfl (c_setR (p := W.takeWhile isNt) (V := W.dropWhile isNt) (by omega) r2 (by rw [tdw, List.length_append, List.length_singleton]; omega) (by rw [tdw]; exact hr) (fun x hx => by rw [tw_all x hx]; decide) (dw_hd hr) (fun h3 r3 => ?_))
      show Aj γ mX9_takesPart d 0 0 Post 114 [(1, vI 0), (0, vA 123)] [] (mk h3 τ)
      refine a_aload_n (j := 1) dX9_takesPart_114 rfl rfl (Nat.le_of_ble_eq_true rfl) ?_
      refine b_callV (d' := d - 1) (mc' := 0) (ms' := 0) (mc1 := 0) (ms1 := 0) (st := []) (b := 123) [] dX9_takesPart_115 mwX9_go lkX9_256 (by decide) rfl rc_X9 rfl (Nat.le_of_ble_eq_true rfl) (by omega) rfl rfl (c_goR (by omega) hm hBr hK3 r3 (by omega) (fun h4 r4 => ?_))
      show Aj γ mX9_takesPart d 0 0 Post 118 [(1, vI 0), (0, vA 123)] [] (mk h4 τ)
      refine a_iconst dX9_takesPart_118 ⟨by decide, by decide⟩ ?_
      exact a_zret dX9_takesPart_119 rfl (Or.inr rfl) (kT h4 r4)
    · refine a_iload_n (j := 0) dX9_takesPart_46 rfl rfl ?_
      refine a_if_ne (tgt := 52) dX9_takesPart_47 (by decide) (fun c => absurd c (by decide)) (fun _ => ?_)
      refine a_iconst dX9_takesPart_50 ⟨by decide, by decide⟩ ?_
      exact a_zret dX9_takesPart_51 rfl (by first | exact Or.inl rfl | exact Or.inr rfl | omega) (by exfalso; exact lf_no r hv hk hl (by omega))
  · refine a_aload_n (j := 0) dX9_takesPart_8 rfl rfl (Nat.le_of_ble_eq_true rfl) ?_
    refine b_get (a := 123) (z := ((t.2.2 : Nat) : Int)) (t := 0) dX9_takesPart_9 fwX9_232 (by decide) rfl (by decide) rfl rfl r.1.2.2.1 ?_
    refine a_aload_n (j := 0) dX9_takesPart_12 rfl rfl (Nat.le_of_ble_eq_true rfl) ?_
    refine b_get (a := 123) (z := ((t.2.1 : Nat) : Int)) (t := 0) dX9_takesPart_13 fwX9_235 (by decide) rfl (by decide) rfl rfl r.1.2.2.2.1 ?_
    refine a_isub (z := (((t.2.2 : Nat) : Int) - ((t.2.1 : Nat) : Int))) dX9_takesPart_16 (w_ok (by omega) (by omega)) ?_
    refine a_iconst dX9_takesPart_17 ⟨by decide, by decide⟩ ?_
    refine a_icmp_ne (tgt := 36) dX9_takesPart_18 (by decide) (fun c18_4 => ?_) (fun c18_4 => ?_)
    · refine a_iconst dX9_takesPart_36 ⟨by decide, by decide⟩ ?_
      refine a_istore_n (lv' := [(1, vI 0), (0, vA 123)]) dX9_takesPart_37 rfl (by decide) rfl ?_
      refine a_aload_n (j := 1) dX9_takesPart_38 rfl rfl (Nat.le_of_ble_eq_true rfl) ?_
      refine b_get (a := 123) (z := (rtk t)) (t := 0) dX9_takesPart_39 fwX9_241 (by decide) rfl (by decide) rfl rfl r.1.2.2.2.2.1 ?_
      refine a_iconst dX9_takesPart_42 ⟨by decide, by decide⟩ ?_
      refine a_icmp_eq (tgt := 52) dX9_takesPart_43 (by decide) (fun c43_5 => absurd c43_5 (by omega)) (fun c43_5 => ?_)
      refine a_iload_n (j := 0) dX9_takesPart_46 rfl rfl ?_
      refine a_if_ne (tgt := 52) dX9_takesPart_47 (by decide) (fun c => absurd c (by decide)) (fun _ => ?_)
      refine a_iconst dX9_takesPart_50 ⟨by decide, by decide⟩ ?_
      exact a_zret dX9_takesPart_51 rfl (by first | exact Or.inl rfl | exact Or.inr rfl | omega) (by exfalso; exact lf_no r hv hk hl (by omega))
    · refine a_aload_n (j := 0) dX9_takesPart_21 rfl rfl (Nat.le_of_ble_eq_true rfl) ?_
      refine a_aload_n (j := 0) dX9_takesPart_22 rfl rfl (Nat.le_of_ble_eq_true rfl) ?_
      refine b_get (a := 123) (z := v) (t := 0) dX9_takesPart_23 fwX9_247 (by decide) rfl (by decide) rfl rfl hv ?_
      refine b_callV (d' := d - 1) (mc' := 0) (ms' := 0) (mc1 := 0) (ms1 := 0) (st := []) (b := 123) [vI v] dX9_takesPart_26 mwX9_nameOf lkX9_268 (by decide) rfl rc_X9 rfl (Nat.le_of_ble_eq_true rfl) (by omega) rfl rfl (c_nmR r.2.2.1 ?_)
      show Aj γ mX9_takesPart d 0 0 Post 29 [(0, vA 123)] [vI (nmF ((K : Nat) : Int) v)] (mk h τ)
      refine a_if_lt (tgt := 36) dX9_takesPart_29 (by decide) (fun c29_6 => ?_) (fun c29_6 => ?_)
      · refine a_iconst dX9_takesPart_36 ⟨by decide, by decide⟩ ?_
        refine a_istore_n (lv' := [(1, vI 0), (0, vA 123)]) dX9_takesPart_37 rfl (by decide) rfl ?_
        refine a_aload_n (j := 1) dX9_takesPart_38 rfl rfl (Nat.le_of_ble_eq_true rfl) ?_
        refine b_get (a := 123) (z := (rtk t)) (t := 0) dX9_takesPart_39 fwX9_241 (by decide) rfl (by decide) rfl rfl r.1.2.2.2.2.1 ?_
        refine a_iconst dX9_takesPart_42 ⟨by decide, by decide⟩ ?_
        refine a_icmp_eq (tgt := 52) dX9_takesPart_43 (by decide) (fun c43_7 => absurd c43_7 (by omega)) (fun c43_7 => ?_)
        refine a_iload_n (j := 0) dX9_takesPart_46 rfl rfl ?_
        refine a_if_ne (tgt := 52) dX9_takesPart_47 (by decide) (fun c => absurd c (by decide)) (fun _ => ?_)
        refine a_iconst dX9_takesPart_50 ⟨by decide, by decide⟩ ?_
        exact a_zret dX9_takesPart_51 rfl (by first | exact Or.inl rfl | exact Or.inr rfl | omega) (by exfalso; exact lf_no r hv hk hl (by omega))
      · refine a_iconst dX9_takesPart_32 ⟨by decide, by decide⟩ ?_
        refine a_goto (tgt := 37) dX9_takesPart_33 (by decide) ?_
        refine a_istore_n (lv' := [(1, vI 1), (0, vA 123)]) dX9_takesPart_37 rfl (by decide) rfl ?_
        refine a_aload_n (j := 1) dX9_takesPart_38 rfl rfl (Nat.le_of_ble_eq_true rfl) ?_
        refine b_get (a := 123) (z := (rtk t)) (t := 0) dX9_takesPart_39 fwX9_241 (by decide) rfl (by decide) rfl rfl r.1.2.2.2.2.1 ?_
        refine a_iconst dX9_takesPart_42 ⟨by decide, by decide⟩ ?_
        refine a_icmp_eq (tgt := 52) dX9_takesPart_43 (by decide) (fun c43_8 => absurd c43_8 (by omega)) (fun c43_8 => ?_)
        refine a_iload_n (j := 0) dX9_takesPart_46 rfl rfl ?_
        refine a_if_ne (tgt := 52) dX9_takesPart_47 (by decide) (fun _ => ?_) (fun c => absurd c (by decide))
        refine a_aload_n (j := 1) dX9_takesPart_52 rfl rfl (Nat.le_of_ble_eq_true rfl) ?_
        refine b_getp (a := 123) (p := 140) dX9_takesPart_53 fwX9_60 (by decide) rfl (by decide) rfl rfl ?_
        refine a_aload_n (j := 1) dX9_takesPart_56 rfl rfl (Nat.le_of_ble_eq_true rfl) ?_
        refine b_get (a := 123) (z := ((C.length : Nat) : Int)) (t := 0) dX9_takesPart_57 fwX9_265 (by decide) rfl (by decide) rfl rfl r.2.1.2.1 ?_
        refine a_aload_n (j := 1) dX9_takesPart_60 rfl rfl (Nat.le_of_ble_eq_true rfl) ?_
        refine b_get (a := 123) (z := (rtk t)) (t := 0) dX9_takesPart_61 fwX9_241 (by decide) rfl (by decide) rfl rfl r.1.2.2.2.2.1 ?_
        refine a_iconst dX9_takesPart_64 ⟨by decide, by decide⟩ ?_
        refine a_icmp_ne (tgt := 75) dX9_takesPart_65 (by decide) (fun c65_9 => ?_) (fun c65_9 => absurd c65_9 (by omega))
        refine a_sipush dX9_takesPart_75 ⟨by decide, by decide, by decide⟩ ?_
        refine a_aload_n (j := 1) dX9_takesPart_78 rfl rfl (Nat.le_of_ble_eq_true rfl) ?_
        refine a_aload_n (j := 1) dX9_takesPart_79 rfl rfl (Nat.le_of_ble_eq_true rfl) ?_
        refine b_get (a := 123) (z := v) (t := 0) dX9_takesPart_80 fwX9_247 (by decide) rfl (by decide) rfl rfl hv ?_
        refine b_callV (d' := d - 1) (mc' := 0) (ms' := 0) (mc1 := 0) (ms1 := 0) (st := [vI 10000, vI ((C.length : Nat) : Int), vA 140]) (b := 123) [vI v] dX9_takesPart_83 mwX9_nameOf lkX9_268 (by decide) rfl rc_X9 rfl (Nat.le_of_ble_eq_true rfl) (by omega) rfl rfl (c_nmR r.2.2.1 ?_)
        show Aj γ mX9_takesPart d 0 0 Post 86 [(1, vI 1), (0, vA 123)] [vI (nmF ((K : Nat) : Int) v), vI 10000, vI ((C.length : Nat) : Int), vA 140] (mk h τ)
        refine a_iadd (z := (10000 + (nmF ((K : Nat) : Int) v))) dX9_takesPart_86 (w_ok (by omega) (by omega)) ?_
        refine b_iastore (a := 140) C.length dX9_takesPart_87 (by decide) rfl rfl (by omega) (sp_nil rfl _) ?_
        refine a_aload_n (j := 1) dX9_takesPart_88 rfl rfl (Nat.le_of_ble_eq_true rfl) ?_
        refine a_dup dX9_takesPart_89 (fun h => nomatch h) ?_
        refine b_get (a := 123) (z := ((C.length : Nat) : Int)) (t := 0) dX9_takesPart_90 fwX9_265 (by decide) rfl (by decide) rfl rfl ((up2_ne (by omega)).trans r.2.1.2.1) ?_
        refine a_iconst dX9_takesPart_93 ⟨by decide, by decide⟩ ?_
        refine a_iadd (z := (((C.length : Nat) : Int) + 1)) dX9_takesPart_94 (w_ok (by omega) (by omega)) ?_
        refine b_put (a := 123) (v := vI (((C.length : Nat) : Int) + 1)) dX9_takesPart_95 pwX9_265 (fun h => nomatch h) (by decide) rfl (by decide) rfl rfl (fit_int _) ?_
        show Aj γ mX9_takesPart d 0 0 Post 98 [(1, vI 1), (0, vA 123)] [] (mk (up2 (up2 h 140 C.length (10000 + (nmF ((K : Nat) : Int) v))) 123 27 (((C.length : Nat) : Int) + 1)) τ)
        refine a_aload_n (j := 1) dX9_takesPart_98 rfl rfl (Nat.le_of_ble_eq_true rfl) ?_
        refine a_dup dX9_takesPart_99 (fun h => nomatch h) ?_
        refine b_get (a := 123) (z := ((lvs C : Nat) : Int)) (t := 0) dX9_takesPart_100 fwX9_271 (by decide) rfl (by decide) rfl rfl ((up2_ne (by omega)).trans ((up2_ne (by omega)).trans r.2.2.2.1)) ?_
        refine a_iconst dX9_takesPart_103 ⟨by decide, by decide⟩ ?_
        refine a_iadd (z := (((lvs C : Nat) : Int) + 1)) dX9_takesPart_104 (w_ok (by omega) (by omega)) ?_
        refine b_put (a := 123) (v := vI (((lvs C : Nat) : Int) + 1)) dX9_takesPart_105 pwX9_271 (fun h => nomatch h) (by decide) rfl (by decide) rfl rfl (fit_int _) ?_
        show Aj γ mX9_takesPart d 0 0 Post 108 [(1, vI 1), (0, vA 123)] [] (mk (up2 (up2 (up2 h 140 C.length (10000 + (nmF ((K : Nat) : Int) v))) 123 27 (((C.length : Nat) : Int) + 1)) 123 28 (((lvs C : Nat) : Int) + 1)) τ)
        have hcd : (10000 + (nmF ((K : Nat) : Int) v)) = lfc B ((K : Nat) : Int) t := (lf_v1 r hv (by omega) (by omega) (by omega)).symm
        rw [hcd]
        have r2 := RES_leaf (x := lfc B ((K : Nat) : Int) t) (by omega) r
        generalize up2 (up2 (up2 h 140 C.length (lfc B ((K : Nat) : Int) t)) 123 27 (((C.length : Nat) : Int) + 1)) 123 28 (((lvs C : Nat) : Int) + 1) = h2 at r2 ⊢
        rw [← tdw (W := W)] at r2
        refine a_aload_n (j := 1) dX9_takesPart_108 rfl rfl (Nat.le_of_ble_eq_true rfl) ?_
        refine a_bipush dX9_takesPart_109 ⟨by decide, by decide, by decide⟩ ?_
        refine b_callV (d' := d - 1) (mc' := 0) (ms' := 0) (mc1 := 0) (ms1 := 0) (st := []) (b := 123) [vI 6] dX9_takesPart_111 mwX9_settle lkX9_274 (by decide) rfl rc_X9 rfl (Nat.le_of_ble_eq_true rfl) (by omega) rfl rfl (c_setR (p := W.takeWhile isNt) (V := W.dropWhile isNt) (by omega) r2 (by rw [tdw, List.length_append, List.length_singleton]; omega) (by rw [tdw]; exact hr) (fun x hx => by rw [tw_all x hx]; decide) (dw_hd hr) (fun h3 r3 => ?_))
        show Aj γ mX9_takesPart d 0 0 Post 114 [(1, vI 1), (0, vA 123)] [] (mk h3 τ)
        refine a_aload_n (j := 1) dX9_takesPart_114 rfl rfl (Nat.le_of_ble_eq_true rfl) ?_
        refine b_callV (d' := d - 1) (mc' := 0) (ms' := 0) (mc1 := 0) (ms1 := 0) (st := []) (b := 123) [] dX9_takesPart_115 mwX9_go lkX9_256 (by decide) rfl rc_X9 rfl (Nat.le_of_ble_eq_true rfl) (by omega) rfl rfl (c_goR (by omega) hm hBr hK3 r3 (by omega) (fun h4 r4 => ?_))
        show Aj γ mX9_takesPart d 0 0 Post 118 [(1, vI 1), (0, vA 123)] [] (mk h4 τ)
        refine a_iconst dX9_takesPart_118 ⟨by decide, by decide⟩ ?_
        exact a_zret dX9_takesPart_119 rfl (Or.inr rfl) (kT h4 r4)
theorem lf_yes {B : Nat → Int} {n K o : Nat} {h0 : Nat → Nat → Int} {t : Tk} {W C : List Int} {T : Nat → Bool} {h : Nat → Nat → Int} {v : Int} (r : RES B n K h0 h t W C o T) (hv : h 123 21 = v) (hx : rtk t = 2 ∨ (rtk t = 1 ∧ ((t.2.2 : Nat) : Int) - ((t.2.1 : Nat) : Int) = 1 ∧ 0 ≤ nmF ((K : Nat) : Int) v)) : (t.1 = 1 ∨ t.1 = 2) ∧ ¬ lfc B ((K : Nat) : Int) t = -1 := by
  have hV := r.1.2.2.2.2.2.2.2.2.2
  rcases hx with q | ⟨q, q2, q3⟩
  · have h2 := (rtk_2 t).mp q
    refine ⟨Or.inr h2.1, ?_⟩
    rw [lf_nT h2.1 h2.2]
    have := num_4 (B := B) (s := t.2.1) h2.2 (fun j hj => hV.2.2.2.2 h2.1 _ (by omega) (by omega))
    omega
  · refine ⟨Or.inl ((rtk_1 t).mp q), ?_⟩
    rw [lf_v1 r hv q q2 q3]
    omega
set_option maxHeartbeats 8000000 in
theorem c_partF {γ : GT} {d : Nat} {B : Nat → Int} {n K o : Nat} {h0 : Nat → Nat → Int} {t : Tk} {W C : List Int} {T : Nat → Bool} {h : Nat → Nat → Int} {τ : List AC} {Post : Option AV → List AC → Prop} (hd : 3 ≤ d) (hm : n ≤ 96) (r : RES B n K h0 h t W C o T) (hl : (t.1 = 1 ∨ t.1 = 2) → lfc B ((K : Nat) : Int) t = -1) (kF : Post (some (vI 0)) (mk h τ)) : Cj γ mX9_takesPart d 0 0 [vA 123] (mk h τ) Post := by
  obtain ⟨v, hv⟩ : ∃ v, h 123 21 = v := ⟨_, rfl⟩
  have hvl := r.1.2.2.2.2.2.2.2.2.2.1
  have hvn := r.1.2.2.2.2.2.2.2.2.2.2.1
  have hx : ¬ (rtk t = 2 ∨ (rtk t = 1 ∧ ((t.2.2 : Nat) : Int) - ((t.2.1 : Nat) : Int) = 1 ∧ 0 ≤ nmF ((K : Nat) : Int) v)) := fun q => (lf_yes r hv q).2 (hl (lf_yes r hv q).1)
  refine c_of (by decide) (Nat.le_of_ble_eq_true rfl) ?_
  show Aj γ mX9_takesPart d 0 0 Post 0 [(0, vA 123)] [] (mk h τ)
  refine a_aload_n (j := 0) dX9_takesPart_0 rfl rfl (Nat.le_of_ble_eq_true rfl) ?_
  refine b_get (a := 123) (z := (rtk t)) (t := 0) dX9_takesPart_1 fwX9_241 (by decide) rfl (by decide) rfl rfl r.1.2.2.2.2.1 ?_
  refine a_iconst dX9_takesPart_4 ⟨by decide, by decide⟩ ?_
  refine a_icmp_ne (tgt := 36) dX9_takesPart_5 (by decide) (fun c5_1 => ?_) (fun c5_1 => ?_)
  · refine a_iconst dX9_takesPart_36 ⟨by decide, by decide⟩ ?_
    refine a_istore_n (lv' := [(1, vI 0), (0, vA 123)]) dX9_takesPart_37 rfl (by decide) rfl ?_
    refine a_aload_n (j := 1) dX9_takesPart_38 rfl rfl (Nat.le_of_ble_eq_true rfl) ?_
    refine b_get (a := 123) (z := (rtk t)) (t := 0) dX9_takesPart_39 fwX9_241 (by decide) rfl (by decide) rfl rfl r.1.2.2.2.2.1 ?_
    refine a_iconst dX9_takesPart_42 ⟨by decide, by decide⟩ ?_
    refine a_icmp_eq (tgt := 52) dX9_takesPart_43 (by decide) (fun c43_2 => ?_) (fun c43_2 => ?_)
    · exfalso
      exact hx (by omega)
    · refine a_iload_n (j := 0) dX9_takesPart_46 rfl rfl ?_
      refine a_if_ne (tgt := 52) dX9_takesPart_47 (by decide) (fun c => absurd c (by decide)) (fun _ => ?_)
      refine a_iconst dX9_takesPart_50 ⟨by decide, by decide⟩ ?_
      exact a_zret dX9_takesPart_51 rfl (by first | exact Or.inl rfl | exact Or.inr rfl | omega) kF
  · refine a_aload_n (j := 0) dX9_takesPart_8 rfl rfl (Nat.le_of_ble_eq_true rfl) ?_
    refine b_get (a := 123) (z := ((t.2.2 : Nat) : Int)) (t := 0) dX9_takesPart_9 fwX9_232 (by decide) rfl (by decide) rfl rfl r.1.2.2.1 ?_
    refine a_aload_n (j := 0) dX9_takesPart_12 rfl rfl (Nat.le_of_ble_eq_true rfl) ?_
    refine b_get (a := 123) (z := ((t.2.1 : Nat) : Int)) (t := 0) dX9_takesPart_13 fwX9_235 (by decide) rfl (by decide) rfl rfl r.1.2.2.2.1 ?_
    refine a_isub (z := (((t.2.2 : Nat) : Int) - ((t.2.1 : Nat) : Int))) dX9_takesPart_16 (w_ok (by omega) (by omega)) ?_
    refine a_iconst dX9_takesPart_17 ⟨by decide, by decide⟩ ?_
    refine a_icmp_ne (tgt := 36) dX9_takesPart_18 (by decide) (fun c18_3 => ?_) (fun c18_3 => ?_)
    · refine a_iconst dX9_takesPart_36 ⟨by decide, by decide⟩ ?_
      refine a_istore_n (lv' := [(1, vI 0), (0, vA 123)]) dX9_takesPart_37 rfl (by decide) rfl ?_
      refine a_aload_n (j := 1) dX9_takesPart_38 rfl rfl (Nat.le_of_ble_eq_true rfl) ?_
      refine b_get (a := 123) (z := (rtk t)) (t := 0) dX9_takesPart_39 fwX9_241 (by decide) rfl (by decide) rfl rfl r.1.2.2.2.2.1 ?_
      refine a_iconst dX9_takesPart_42 ⟨by decide, by decide⟩ ?_
      refine a_icmp_eq (tgt := 52) dX9_takesPart_43 (by decide) (fun c43_4 => absurd c43_4 (by omega)) (fun c43_4 => ?_)
      refine a_iload_n (j := 0) dX9_takesPart_46 rfl rfl ?_
      refine a_if_ne (tgt := 52) dX9_takesPart_47 (by decide) (fun c => absurd c (by decide)) (fun _ => ?_)
      refine a_iconst dX9_takesPart_50 ⟨by decide, by decide⟩ ?_
      exact a_zret dX9_takesPart_51 rfl (by first | exact Or.inl rfl | exact Or.inr rfl | omega) kF
    · refine a_aload_n (j := 0) dX9_takesPart_21 rfl rfl (Nat.le_of_ble_eq_true rfl) ?_
      refine a_aload_n (j := 0) dX9_takesPart_22 rfl rfl (Nat.le_of_ble_eq_true rfl) ?_
      refine b_get (a := 123) (z := v) (t := 0) dX9_takesPart_23 fwX9_247 (by decide) rfl (by decide) rfl rfl hv ?_
      refine b_callV (d' := d - 1) (mc' := 0) (ms' := 0) (mc1 := 0) (ms1 := 0) (st := []) (b := 123) [vI v] dX9_takesPart_26 mwX9_nameOf lkX9_268 (by decide) rfl rc_X9 rfl (Nat.le_of_ble_eq_true rfl) (by omega) rfl rfl (c_nmR r.2.2.1 ?_)
      show Aj γ mX9_takesPart d 0 0 Post 29 [(0, vA 123)] [vI (nmF ((K : Nat) : Int) v)] (mk h τ)
      refine a_if_lt (tgt := 36) dX9_takesPart_29 (by decide) (fun c29_5 => ?_) (fun c29_5 => ?_)
      · refine a_iconst dX9_takesPart_36 ⟨by decide, by decide⟩ ?_
        refine a_istore_n (lv' := [(1, vI 0), (0, vA 123)]) dX9_takesPart_37 rfl (by decide) rfl ?_
        refine a_aload_n (j := 1) dX9_takesPart_38 rfl rfl (Nat.le_of_ble_eq_true rfl) ?_
        refine b_get (a := 123) (z := (rtk t)) (t := 0) dX9_takesPart_39 fwX9_241 (by decide) rfl (by decide) rfl rfl r.1.2.2.2.2.1 ?_
        refine a_iconst dX9_takesPart_42 ⟨by decide, by decide⟩ ?_
        refine a_icmp_eq (tgt := 52) dX9_takesPart_43 (by decide) (fun c43_6 => absurd c43_6 (by omega)) (fun c43_6 => ?_)
        refine a_iload_n (j := 0) dX9_takesPart_46 rfl rfl ?_
        refine a_if_ne (tgt := 52) dX9_takesPart_47 (by decide) (fun c => absurd c (by decide)) (fun _ => ?_)
        refine a_iconst dX9_takesPart_50 ⟨by decide, by decide⟩ ?_
        exact a_zret dX9_takesPart_51 rfl (by first | exact Or.inl rfl | exact Or.inr rfl | omega) kF
      · refine a_iconst dX9_takesPart_32 ⟨by decide, by decide⟩ ?_
        refine a_goto (tgt := 37) dX9_takesPart_33 (by decide) ?_
        refine a_istore_n (lv' := [(1, vI 1), (0, vA 123)]) dX9_takesPart_37 rfl (by decide) rfl ?_
        refine a_aload_n (j := 1) dX9_takesPart_38 rfl rfl (Nat.le_of_ble_eq_true rfl) ?_
        refine b_get (a := 123) (z := (rtk t)) (t := 0) dX9_takesPart_39 fwX9_241 (by decide) rfl (by decide) rfl rfl r.1.2.2.2.2.1 ?_
        refine a_iconst dX9_takesPart_42 ⟨by decide, by decide⟩ ?_
        refine a_icmp_eq (tgt := 52) dX9_takesPart_43 (by decide) (fun c43_7 => absurd c43_7 (by omega)) (fun c43_7 => ?_)
        refine a_iload_n (j := 0) dX9_takesPart_46 rfl rfl ?_
        refine a_if_ne (tgt := 52) dX9_takesPart_47 (by decide) (fun _ => ?_) (fun c => absurd c (by decide))
        exfalso
        exact hx (by omega)
