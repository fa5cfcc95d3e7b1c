theorem PFl_le {B : Nat → Int} {n s : Nat} (h : PFl B n s) : s ≤ n := by
  have hV := tk1_V (B := B) (n := n)
  rcases h with ⟨_, e⟩ | ⟨K, b, t', cs, h1, g, _, e⟩
  · have := hV.1; have := hV.2.1; omega
  · have w := gr_w g (nxt_V (B := B) (n := n) (t := tk1 B n) hV.2.1).1
    have := w.1.1; have := w.1.2.1; omega
set_option maxHeartbeats 8000000 in
theorem c_X8_text {γ : GT} {d : Nat} {B : Nat → Int} {n T : Nat} {v : Int} {h : Nat → Nat → Int} {τ : List AC} {Post : Option AV → List AC → Prop} (hd : 91 ≤ d) (hn : h 84 1 = ((n : Nat) : Int)) (hm : n ≤ 96) (hB : ∀ k, k < n → and32 (h 85 k) 255 = B k) (hBr : ∀ k, 0 ≤ B k ∧ B k ≤ 255) (e5 : h 1 5 = ((T : Nat) : Int)) (hT : T ≤ 14) (e0 : h 0 3 = v) (hv : 0 ≤ v ∧ v ≤ 1000) (kF : ∀ (h' : Nat → Nat → Int) (s : Nat), Fr [84, 86] h h' → h' 84 1 = 0 → PFl B n s → Post (some (vI (-100 - ((s : Nat) : Int)))) (mk h' τ)) (kU : 14 ≤ T → ∀ (h' : Nat → Nat → Int) (K : Nat) (cs : List Int) (ft cx : Nat → Int), Fr [84, 86] h h' → h' 84 1 = 0 → PSc B n K cs → TXc τ K cs ft cx → Post (some (vI (-1000000003))) (mk h' (τ ++ [(4, 3, ft), (12, cs.length, cx)]))) (kT : T < 14 → ∀ (h1 : Nat → Nat → Int) (K : Nat) (cs : List Int) (ft cx : Nat → Int), Fr [84, 86] h h1 → PSc B n K cs → TXc τ K cs ft cx → Post (some (vI ((T : Nat) : Int))) (mk (up2 (up2 (up2 (up2 (up2 h1 84 1 0) 4 T ((154 + τ.length : Nat) : Int)) 1 5 (((T : Nat) : Int) + 1)) 0 3 (v + 1)) 1 0 (v + 1)) (τ ++ [(4, 3, ft), (12, cs.length, cx)]))) : Cj γ mX8_text d 2 99 [vA 0] (mk h τ) Post := by
  refine c_of (by decide) (Nat.le_of_ble_eq_true rfl) ?_
  show Aj γ mX8_text d 2 99 Post 0 [(0, vA 0)] [] (mk h τ)
  refine a_aload_n (j := 0) dX8_text_0 rfl rfl (Nat.le_of_ble_eq_true rfl) ?_
  refine b_getp (a := 0) (p := 84) dX8_text_1 fwX8_46 (by decide) rfl (by decide) rfl rfl ?_
  refine b_callV (d' := d - 1) (mc' := 2) (ms' := 99) (mc1 := 0) (ms1 := 0) (st := []) (b := 84) [] dX8_text_4 mwX3_parse lkX8_225 (by decide) rfl rc_X3 rfl (Nat.le_of_ble_eq_true rfl) (by omega) rfl rfl (c_parse (B := B) (n := n) (by omega) hn hm hB hBr (fun h1 s f1 e2 q1 => ?_) (fun h1 K cs ft cx f1 q1 q2 => ?_))
  · have hsn := PFl_le q1
    show Aj γ mX8_text d 0 0 Post 7 [(0, vA 0)] [vN] (mk h1 τ)
    refine a_astore_n (lv' := [(1, vN), (0, vA 0)]) dX8_text_7 rfl (by decide) (Nat.le_of_ble_eq_true rfl) rfl ?_
    refine a_aload_n (j := 1) dX8_text_8 rfl rfl (Nat.le_of_ble_eq_true rfl) ?_
    refine b_getp (a := 0) (p := 84) dX8_text_9 fwX8_46 (by decide) rfl (by decide) rfl rfl ?_
    refine a_iconst dX8_text_12 ⟨by decide, by decide⟩ ?_
    refine b_put (a := 84) (v := vI 0) dX8_text_13 pwX8_219 (fun h => nomatch h) (by decide) rfl (by decide) rfl rfl (fit_int _) ?_
    show Aj γ mX8_text d 0 0 Post 16 [(1, vN), (0, vA 0)] [] (mk (up2 h1 84 1 0) τ)
    refine a_aload_n (j := 0) dX8_text_16 rfl rfl (Nat.le_of_ble_eq_true rfl) ?_
    refine a_ifnonnull (tgt := 31) dX8_text_17 (by decide) (fun c => absurd c (by decide)) (fun _ => ?_)
    refine a_bipush dX8_text_20 ⟨by decide, by decide, by decide⟩ ?_
    refine a_aload_n (j := 1) dX8_text_22 rfl rfl (Nat.le_of_ble_eq_true rfl) ?_
    refine b_getp (a := 0) (p := 84) dX8_text_23 fwX8_46 (by decide) rfl (by decide) rfl rfl ?_
    refine b_callV (d' := d - 1) (mc' := 0) (ms' := 0) (mc1 := 0) (ms1 := 0) (st := [vI (-100)]) (b := 84) [] dX8_text_26 mwX3_faultPlace lkX8_229 (by decide) rfl rc_X3 rfl (Nat.le_of_ble_eq_true rfl) (by omega) rfl rfl (c_X3_faultPlace (v1 := ((s : Nat) : Int)) (by omega)  ((up2_ne (by omega)).trans e2)  ?_)
    show Aj γ mX8_text d 0 0 Post 29 [(1, vN), (0, vA 0)] [vI ((s : Nat) : Int), vI (-100)] (mk (up2 h1 84 1 0) τ)
    refine a_isub (z := ((-100) - ((s : Nat) : Int))) dX8_text_29 (w_ok (by omega) (by omega)) ?_
    exact a_iret dX8_text_30 rfl (kF _ s (Fr_u (by decide) (Fr_m (by decide) f1)) up2_at q1)
  · show Aj γ mX8_text d 0 0 Post 7 [(0, vA 0)] [vA (154 + τ.length)] (mk h1 (τ ++ [(4, 3, ft), (12, cs.length, cx)]))
    refine a_astore_n (lv' := [(1, vA (154 + τ.length)), (0, vA 0)]) dX8_text_7 rfl (by decide) (Nat.le_of_ble_eq_true rfl) rfl ?_
    refine a_aload_n (j := 1) dX8_text_8 rfl rfl (Nat.le_of_ble_eq_true rfl) ?_
    refine b_getp (a := 0) (p := 84) dX8_text_9 fwX8_46 (by decide) rfl (by decide) rfl rfl ?_
    refine a_iconst dX8_text_12 ⟨by decide, by decide⟩ ?_
    refine b_put (a := 84) (v := vI 0) dX8_text_13 pwX8_219 (fun h => nomatch h) (by decide) rfl (by decide) rfl rfl (fit_int _) ?_
    show Aj γ mX8_text d 0 0 Post 16 [(1, vA (154 + τ.length)), (0, vA 0)] [] (mk (up2 h1 84 1 0) (τ ++ [(4, 3, ft), (12, cs.length, cx)]))
    refine a_aload_n (j := 0) dX8_text_16 rfl rfl (Nat.le_of_ble_eq_true rfl) ?_
    refine a_ifnonnull (tgt := 31) dX8_text_17 (by decide) (fun _ => ?_) (fun c => absurd c (by omega))
    refine a_aload_n (j := 1) dX8_text_31 rfl rfl (Nat.le_of_ble_eq_true rfl) ?_
    refine b_getp (a := 0) (p := 1) dX8_text_32 fwX8_14 (by decide) rfl (by decide) rfl rfl ?_
    refine b_get (a := 1) (z := ((T : Nat) : Int)) (t := 0) dX8_text_35 fwX8_232 (by decide) rfl (by decide) rfl rfl ((up2_ne (by omega)).trans ((Fr_v f1 (by decide)).trans e5)) ?_
    refine a_bipush dX8_text_38 ⟨by decide, by decide, by decide⟩ ?_
    refine a_icmp_lt (tgt := 46) dX8_text_40 (by decide) (fun c40_1 => ?_) (fun c40_1 => ?_)
    · refine a_aload_n (j := 1) dX8_text_46 rfl rfl (Nat.le_of_ble_eq_true rfl) ?_
      refine b_getp (a := 0) (p := 1) dX8_text_47 fwX8_14 (by decide) rfl (by decide) rfl rfl ?_
      refine b_getp (a := 1) (p := 4) dX8_text_50 fwX8_235 (by decide) rfl (by decide) rfl rfl ?_
      refine a_aload_n (j := 1) dX8_text_53 rfl rfl (Nat.le_of_ble_eq_true rfl) ?_
      refine b_getp (a := 0) (p := 1) dX8_text_54 fwX8_14 (by decide) rfl (by decide) rfl rfl ?_
      refine b_get (a := 1) (z := ((T : Nat) : Int)) (t := 0) dX8_text_57 fwX8_232 (by decide) rfl (by decide) rfl rfl ((up2_ne (by omega)).trans ((Fr_v f1 (by decide)).trans e5)) ?_
      refine a_aload_n (j := 0) dX8_text_60 rfl rfl (Nat.le_of_ble_eq_true rfl) ?_
      refine b_aastore (a := 4) (b := (154 + τ.length)) (κ' := 4) (n' := 3) (f' := ft) T dX8_text_61 (by decide) rfl ((mk_dyn _).trans tau_3) qs_17 rfl (by omega) (sp_nil rfl _) ?_
      refine a_aload_n (j := 1) dX8_text_62 rfl rfl (Nat.le_of_ble_eq_true rfl) ?_
      refine b_getp (a := 0) (p := 1) dX8_text_63 fwX8_14 (by decide) rfl (by decide) rfl rfl ?_
      refine a_dup dX8_text_66 (fun h => nomatch h) ?_
      refine b_get (a := 1) (z := ((T : Nat) : Int)) (t := 0) dX8_text_67 fwX8_232 (by decide) rfl (by decide) rfl rfl ((up2_ne (by omega)).trans ((up2_ne (by omega)).trans ((Fr_v f1 (by decide)).trans e5))) ?_
      refine a_iconst dX8_text_70 ⟨by decide, by decide⟩ ?_
      refine a_iadd (z := (((T : Nat) : Int) + 1)) dX8_text_71 (w_ok (by omega) (by omega)) ?_
      refine b_put (a := 1) (v := vI (((T : Nat) : Int) + 1)) dX8_text_72 pwX8_232 (fun h => nomatch h) (by decide) rfl (by decide) rfl rfl (fit_int _) ?_
      show Aj γ mX8_text d 0 0 Post 75 [(1, vA (154 + τ.length)), (0, vA 0)] [] (mk (up2 (up2 (up2 h1 84 1 0) 4 T ((154 + τ.length : Nat) : Int)) 1 5 (((T : Nat) : Int) + 1)) (τ ++ [(4, 3, ft), (12, cs.length, cx)]))
      refine a_aload_n (j := 1) dX8_text_75 rfl rfl (Nat.le_of_ble_eq_true rfl) ?_
      refine b_callV (d' := d - 1) (mc' := 0) (ms' := 0) (mc1 := 0) (ms1 := 0) (st := []) (b := 0) [] dX8_text_76 mwX8_stampAnew lkX8_81 (by decide) rfl rc_X8 rfl (Nat.le_of_ble_eq_true rfl) (by omega) rfl rfl (c_X8_stampAnew (v1 := v) (by omega)  ((up2_ne (by omega)).trans ((up2_ne (by omega)).trans ((up2_ne (by omega)).trans ((Fr_v f1 (by decide)).trans e0)))) (show 0 ≤ v ∧ v ≤ 1000 by omega) ?_)
      show Aj γ mX8_text d 0 0 Post 79 [(1, vA (154 + τ.length)), (0, vA 0)] [] (mk (up2 (up2 (up2 (up2 (up2 h1 84 1 0) 4 T ((154 + τ.length : Nat) : Int)) 1 5 (((T : Nat) : Int) + 1)) 0 3 (v + 1)) 1 0 (v + 1)) (τ ++ [(4, 3, ft), (12, cs.length, cx)]))
      refine a_aload_n (j := 1) dX8_text_79 rfl rfl (Nat.le_of_ble_eq_true rfl) ?_
      refine b_getp (a := 0) (p := 1) dX8_text_80 fwX8_14 (by decide) rfl (by decide) rfl rfl ?_
      refine b_get (a := 1) (z := (((T : Nat) : Int) + 1)) (t := 0) dX8_text_83 fwX8_232 (by decide) rfl (by decide) rfl rfl ((up2_ne (by omega)).trans ((up2_ne (by omega)).trans up2_at)) ?_
      refine a_iconst dX8_text_86 ⟨by decide, by decide⟩ ?_
      refine a_isub (z := ((((T : Nat) : Int) + 1) - 1)) dX8_text_87 (w_ok (by omega) (by omega)) ?_
      exact a_iret dX8_text_88 rfl (post_v (kT (by omega) h1 K cs ft cx f1 q1 q2) (by omega))
    · refine a_ldc (z := (-1000000003)) dX8_text_43 kwX8_77 ⟨by decide, by decide, by decide⟩ ?_
      exact a_iret dX8_text_45 rfl (kU (by omega) _ K cs ft cx (Fr_u (by decide) (Fr_m (by decide) f1)) up2_at q1 q2)
