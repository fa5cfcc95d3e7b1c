/-- the loop of takesE keeps what is claimed -/
def GLp (γ : GT) (d : Nat) (Post : Option AV → List AC → Prop) (τ : List AC) (B : Nat → Int) (n K : Nat) (h0 : Nat → Nat → Int) (t : Tk) (W C : List Int) (o : Nat) (w : Bool) (T : Nat → Bool) : Prop := W.length + C.length ≤ t.2.1 → wrW W → okW w W → o ≤ 8 → ∀ h : Nat → Nat → Int, RES B n K h0 h t W C o T → Aj γ mX9_takesE d 0 0 Post 28 [(3, vI (if w = true then 1 else 0)), (2, vI ((ntc W : Nat) : Int)), (1, vI ((o : Nat) : Int)), (0, vA 123)] [] (mk h τ)
/-- where it fails -/
def FLp (Post : Option AV → List AC → Prop) (τ : List AC) (B : Nat → Int) (n K : Nat) (h0 : Nat → Nat → Int) (t : Tk) : Prop := ∀ (h : Nat → Nat → Int) (W C : List Int) (o : Nat) (T : Nat → Bool), RES B n K h0 h t W C o T → Post (some (vI 0)) (mk h τ)
theorem ntc_le {W : List Int} : ntc W ≤ W.length := List.countP_le_length
theorem wrW_c {x : Int} {W : List Int} (hx : -11 ≤ x ∧ x ≤ -1) (h : wrW W) : wrW (x :: W) := by
  intro y hy
  rcases List.mem_cons.mp hy with q | q
  · rw [q]; exact hx
  · exact h y q
theorem wrW_r {p W : List Int} (h : wrW (p ++ W)) : wrW W := fun x hx => h x (List.mem_append_right _ hx)
set_option maxHeartbeats 8000000 in
theorem sy_not {γ : GT} {d : Nat} {B : Nat → Int} {n K : Nat} {h0 : Nat → Nat → Int} {τ : List AC} {Post : Option AV → List AC → Prop} (hd : 5 ≤ d) (hm : n ≤ 96) (hBr : ∀ k, 0 ≤ B k ∧ B k ≤ 255) (hK3 : K < 3) {t : Tk} {W C : List Int} {o : Nat} {T : Nat → Bool} (h0' : t.1 = 3) (h1 : B t.2.1 = 33) (h2 : ntc W < 8) (g : GLp γ d Post τ B n K h0 (nxt B n t) (-10 :: W) C o true T) : GLp γ d Post τ B n K h0 t W C o true T := by
  intro hbd hwr hok ho h r
  have hV := r.1.2.2.2.2.2.2.2.2.2
  have hv1 := hV.1
  have hv2 := hV.2.1
  have hv3 := hV.2.2.2.1
  have hr3 := rtk_3 t
  have hr0 := rtk_0 t
  have hnl := ntc_le (W := W)
  have hnx := nxt_V (B := B) (n := n) (t := t) hv2
  have hv4 := hv3 (by omega)
  show Aj γ mX9_takesE d 0 0 Post 28 [(3, vI 1), (2, vI ((ntc W : Nat) : Int)), (1, vI ((o : Nat) : Int)), (0, vA 123)] [] (mk h τ)
  refine a_iload_n (j := 0) dX9_takesE_28 rfl rfl ?_
  refine a_if_ne (tgt := 39) dX9_takesE_29 (by decide) (fun _ => ?_) (fun c => absurd c (by decide))
  refine a_iload_n (j := 0) dX9_takesE_39 rfl rfl ?_
  refine a_if_eq (tgt := 180) dX9_takesE_40 (by decide) (fun c => absurd c (by decide)) (fun _ => ?_)
  refine a_aload_n (j := 3) dX9_takesE_43 rfl rfl (Nat.le_of_ble_eq_true rfl) ?_
  refine b_get (a := 123) (z := (rtk t)) (t := 0) dX9_takesE_44 fwX9_241 (by decide) rfl (by decide) rfl rfl r.1.2.2.2.2.1 ?_
  refine a_iconst dX9_takesE_47 ⟨by decide, by decide⟩ ?_
  refine a_icmp_ne (tgt := 97) dX9_takesE_48 (by decide) (fun c48_1 => absurd c48_1 (by omega)) (fun c48_1 => ?_)
  refine a_aload_n (j := 3) dX9_takesE_51 rfl rfl (Nat.le_of_ble_eq_true rfl) ?_
  refine b_get (a := 123) (z := (B t.2.1)) (t := 0) dX9_takesE_52 fwX9_247 (by decide) rfl (by decide) rfl rfl (r.1.2.2.2.2.2.1 (Or.inr (by omega))) ?_
  refine a_bipush dX9_takesE_55 ⟨by decide, by decide, by decide⟩ ?_
  refine a_icmp_ne (tgt := 97) dX9_takesE_57 (by decide) (fun c57_2 => absurd c57_2 (by omega)) (fun c57_2 => ?_)
  refine a_iload_n (j := 1) dX9_takesE_60 rfl rfl ?_
  refine a_bipush dX9_takesE_61 ⟨by decide, by decide, by decide⟩ ?_
  refine a_icmp_ge (tgt := 97) dX9_takesE_63 (by decide) (fun c63_3 => absurd c63_3 (by omega)) (fun c63_3 => ?_)
  refine a_aload_n (j := 3) dX9_takesE_66 rfl rfl (Nat.le_of_ble_eq_true rfl) ?_
  refine b_getp (a := 123) (p := 141) dX9_takesE_67 fwX9_63 (by decide) rfl (by decide) rfl rfl ?_
  refine a_aload_n (j := 3) dX9_takesE_70 rfl rfl (Nat.le_of_ble_eq_true rfl) ?_
  refine b_get (a := 123) (z := ((W.length : Nat) : Int)) (t := 0) dX9_takesE_71 fwX9_259 (by decide) rfl (by decide) rfl rfl r.2.1.1 ?_
  refine a_bipush dX9_takesE_74 ⟨by decide, by decide, by decide⟩ ?_
  refine b_iastore (a := 141) W.length dX9_takesE_76 (by decide) rfl rfl (by omega) (sp_nil rfl _) ?_
  refine a_aload_n (j := 3) dX9_takesE_77 rfl rfl (Nat.le_of_ble_eq_true rfl) ?_
  refine a_dup dX9_takesE_78 (fun h => nomatch h) ?_
  refine b_get (a := 123) (z := ((W.length : Nat) : Int)) (t := 0) dX9_takesE_79 fwX9_259 (by decide) rfl (by decide) rfl rfl ((up2_ne (by omega)).trans r.2.1.1) ?_
  refine a_iconst dX9_takesE_82 ⟨by decide, by decide⟩ ?_
  refine a_iadd (z := (((W.length : Nat) : Int) + 1)) dX9_takesE_83 (w_ok (by omega) (by omega)) ?_
  refine b_put (a := 123) (v := vI (((W.length : Nat) : Int) + 1)) dX9_takesE_84 pwX9_259 (fun h => nomatch h) (by decide) rfl (by decide) rfl rfl (fit_int _) ?_
  show Aj γ mX9_takesE d 0 0 Post 87 [(3, vI 1), (2, vI ((ntc W : Nat) : Int)), (1, vI ((o : Nat) : Int)), (0, vA 123)] [] (mk (up2 (up2 h 141 W.length (-10)) 123 30 (((W.length : Nat) : Int) + 1)) τ)
  refine a_iinc (j := 1) (z' := ((ntc W + 1 : Nat) : Int)) (lv' := [(2, vI ((ntc W + 1 : Nat) : Int)), (3, vI 1), (1, vI ((o : Nat) : Int)), (0, vA 123)]) dX9_takesE_87 rfl (w_okN (by omega) (by omega) (by omega)) (by decide) rfl ?_
  have r1 := RES_push (x := -10) r
  refine a_aload_n (j := 3) dX9_takesE_90 rfl rfl (Nat.le_of_ble_eq_true rfl) ?_
  refine b_callV (d' := d - 1) (mc' := 0) (ms' := 0) (mc1 := 0) (ms1 := 0) (st := []) (b := 123) [] dX9_takesE_91 mwX9_go lkX9_256 (by decide) rfl rc_X9 rfl (Nat.le_of_ble_eq_true rfl) (by omega) rfl rfl (c_goR (by omega) hm hBr hK3 r1 (by omega) (fun hg4 rg4 => ?_))
  show Aj γ mX9_takesE d 0 0 Post 94 [(2, vI ((ntc W + 1 : Nat) : Int)), (3, vI 1), (1, vI ((o : Nat) : Int)), (0, vA 123)] [] (mk hg4 τ)
  refine a_goto (tgt := 172) dX9_takesE_94 (by decide) ?_
  refine a_aload_n (j := 3) dX9_takesE_172 rfl rfl (Nat.le_of_ble_eq_true rfl) ?_
  refine b_callV (d' := d - 1) (mc' := 0) (ms' := 0) (mc1 := 0) (ms1 := 0) (st := []) (b := 123) [] dX9_takesE_173 mwX9_notsOpen lkX9_281 (by decide) rfl rc_X9 rfl (Nat.le_of_ble_eq_true rfl) (by omega) rfl rfl (c_ntR rg4 (by show W.length + 1 ≤ 96; omega) ?_)
  show Aj γ mX9_takesE d 0 0 Post 176 [(2, vI ((ntc W + 1 : Nat) : Int)), (3, vI 1), (1, vI ((o : Nat) : Int)), (0, vA 123)] [vI ((ntc (-10 :: W) : Nat) : Int)] (mk hg4 τ)
  refine a_istore_n (lv' := [(2, vI ((ntc (-10 :: W) : Nat) : Int)), (3, vI 1), (1, vI ((o : Nat) : Int)), (0, vA 123)]) dX9_takesE_176 rfl (by decide) rfl ?_
  refine a_goto (tgt := 28) dX9_takesE_177 (by decide) ?_
  exact a_lv (lv' := [(3, vI 1), (2, vI ((ntc (-10 :: W) : Nat) : Int)), (1, vI ((o : Nat) : Int)), (0, vA 123)]) (by intro q hq; simp only [List.mem_cons, List.not_mem_nil, or_false] at hq ⊢; rcases hq with rfl | rfl | rfl | rfl <;> simp) (g (show W.length + 1 + C.length ≤ _ by omega) (wrW_c ⟨by decide, by decide⟩ hwr) (okW_n.mpr hok) ho hg4 rg4)
set_option maxHeartbeats 8000000 in
theorem sy_open {γ : GT} {d : Nat} {B : Nat → Int} {n K : Nat} {h0 : Nat → Nat → Int} {τ : List AC} {Post : Option AV → List AC → Prop} (hd : 5 ≤ d) (hm : n ≤ 96) (hBr : ∀ k, 0 ≤ B k ∧ B k ≤ 255) (hK3 : K < 3) {t : Tk} {W C : List Int} {o : Nat} {T : Nat → Bool} (h0' : t.1 = 3) (h1 : B t.2.1 = 40) (h2 : o < 8) (g : GLp γ d Post τ B n K h0 (nxt B n t) (-11 :: W) C (o + 1) true (fun j => if j = o + 1 then false else T j)) : GLp γ d Post τ B n K h0 t W C o true T := by
  intro hbd hwr hok ho h r
  have hV := r.1.2.2.2.2.2.2.2.2.2
  have hv1 := hV.1
  have hv2 := hV.2.1
  have hv3 := hV.2.2.2.1
  have hr3 := rtk_3 t
  have hr0 := rtk_0 t
  have hnl := ntc_le (W := W)
  have hnx := nxt_V (B := B) (n := n) (t := t) hv2
  have hv4 := hv3 (by omega)
  show Aj γ mX9_takesE d 0 0 Post 28 [(3, vI 1), (2, vI ((ntc W : Nat) : Int)), (1, vI ((o : Nat) : Int)), (0, vA 123)] [] (mk h τ)
  refine a_iload_n (j := 0) dX9_takesE_28 rfl rfl ?_
  refine a_if_ne (tgt := 39) dX9_takesE_29 (by decide) (fun _ => ?_) (fun c => absurd c (by decide))
  refine a_iload_n (j := 0) dX9_takesE_39 rfl rfl ?_
  refine a_if_eq (tgt := 180) dX9_takesE_40 (by decide) (fun c => absurd c (by decide)) (fun _ => ?_)
  refine a_aload_n (j := 3) dX9_takesE_43 rfl rfl (Nat.le_of_ble_eq_true rfl) ?_
  refine b_get (a := 123) (z := (rtk t)) (t := 0) dX9_takesE_44 fwX9_241 (by decide) rfl (by decide) rfl rfl r.1.2.2.2.2.1 ?_
  refine a_iconst dX9_takesE_47 ⟨by decide, by decide⟩ ?_
  refine a_icmp_ne (tgt := 97) dX9_takesE_48 (by decide) (fun c48_1 => absurd c48_1 (by omega)) (fun c48_1 => ?_)
  refine a_aload_n (j := 3) dX9_takesE_51 rfl rfl (Nat.le_of_ble_eq_true rfl) ?_
  refine b_get (a := 123) (z := (B t.2.1)) (t := 0) dX9_takesE_52 fwX9_247 (by decide) rfl (by decide) rfl rfl (r.1.2.2.2.2.2.1 (Or.inr (by omega))) ?_
  refine a_bipush dX9_takesE_55 ⟨by decide, by decide, by decide⟩ ?_
  refine a_icmp_ne (tgt := 97) dX9_takesE_57 (by decide) (fun c57_2 => ?_) (fun c57_2 => absurd c57_2 (by omega))
  refine a_aload_n (j := 3) dX9_takesE_97 rfl rfl (Nat.le_of_ble_eq_true rfl) ?_
  refine b_get (a := 123) (z := (rtk t)) (t := 0) dX9_takesE_98 fwX9_241 (by decide) rfl (by decide) rfl rfl r.1.2.2.2.2.1 ?_
  refine a_iconst dX9_takesE_101 ⟨by decide, by decide⟩ ?_
  refine a_icmp_ne (tgt := 158) dX9_takesE_102 (by decide) (fun c102_3 => absurd c102_3 (by omega)) (fun c102_3 => ?_)
  refine a_aload_n (j := 3) dX9_takesE_105 rfl rfl (Nat.le_of_ble_eq_true rfl) ?_
  refine b_get (a := 123) (z := (B t.2.1)) (t := 0) dX9_takesE_106 fwX9_247 (by decide) rfl (by decide) rfl rfl (r.1.2.2.2.2.2.1 (Or.inr (by omega))) ?_
  refine a_bipush dX9_takesE_109 ⟨by decide, by decide, by decide⟩ ?_
  refine a_icmp_ne (tgt := 158) dX9_takesE_111 (by decide) (fun c111_4 => absurd c111_4 (by omega)) (fun c111_4 => ?_)
  refine a_iload_n (j := 2) dX9_takesE_114 rfl rfl ?_
  refine a_bipush dX9_takesE_115 ⟨by decide, by decide, by decide⟩ ?_
  refine a_icmp_ge (tgt := 158) dX9_takesE_117 (by decide) (fun c117_5 => absurd c117_5 (by omega)) (fun c117_5 => ?_)
  refine a_aload_n (j := 3) dX9_takesE_120 rfl rfl (Nat.le_of_ble_eq_true rfl) ?_
  refine b_getp (a := 123) (p := 141) dX9_takesE_121 fwX9_63 (by decide) rfl (by decide) rfl rfl ?_
  refine a_aload_n (j := 3) dX9_takesE_124 rfl rfl (Nat.le_of_ble_eq_true rfl) ?_
  refine b_get (a := 123) (z := ((W.length : Nat) : Int)) (t := 0) dX9_takesE_125 fwX9_259 (by decide) rfl (by decide) rfl rfl r.2.1.1 ?_
  refine a_bipush dX9_takesE_128 ⟨by decide, by decide, by decide⟩ ?_
  refine b_iastore (a := 141) W.length dX9_takesE_130 (by decide) rfl rfl (by omega) (sp_nil rfl _) ?_
  refine a_aload_n (j := 3) dX9_takesE_131 rfl rfl (Nat.le_of_ble_eq_true rfl) ?_
  refine a_dup dX9_takesE_132 (fun h => nomatch h) ?_
  refine b_get (a := 123) (z := ((W.length : Nat) : Int)) (t := 0) dX9_takesE_133 fwX9_259 (by decide) rfl (by decide) rfl rfl ((up2_ne (by omega)).trans r.2.1.1) ?_
  refine a_iconst dX9_takesE_136 ⟨by decide, by decide⟩ ?_
  refine a_iadd (z := (((W.length : Nat) : Int) + 1)) dX9_takesE_137 (w_ok (by omega) (by omega)) ?_
  refine b_put (a := 123) (v := vI (((W.length : Nat) : Int) + 1)) dX9_takesE_138 pwX9_259 (fun h => nomatch h) (by decide) rfl (by decide) rfl rfl (fit_int _) ?_
  show Aj γ mX9_takesE d 0 0 Post 141 [(3, vI 1), (2, vI ((ntc W : Nat) : Int)), (1, vI ((o : Nat) : Int)), (0, vA 123)] [] (mk (up2 (up2 h 141 W.length (-11)) 123 30 (((W.length : Nat) : Int) + 1)) τ)
  refine a_iinc (j := 2) (z' := ((o + 1 : Nat) : Int)) (lv' := [(1, vI ((o + 1 : Nat) : Int)), (3, vI 1), (2, vI ((ntc W : Nat) : Int)), (0, vA 123)]) dX9_takesE_141 rfl (w_okN (by omega) (by omega) (by omega)) (by decide) rfl ?_
  refine a_aload_n (j := 3) dX9_takesE_144 rfl rfl (Nat.le_of_ble_eq_true rfl) ?_
  refine b_getp (a := 123) (p := 142) dX9_takesE_145 fwX9_66 (by decide) rfl (by decide) rfl rfl ?_
  refine a_iload_n (j := 0) dX9_takesE_148 rfl rfl ?_
  refine a_iconst dX9_takesE_149 ⟨by decide, by decide⟩ ?_
  refine b_zastore (a := 142) (z := 0) (o + 1) dX9_takesE_150 (by decide) rfl rfl (by omega) (sp_nil rfl _) (by decide) ⟨by decide, by decide⟩ ?_
  have r1 := RES_push (x := -11) r
  have r2 := RES_t (o' := o + 1) (v := 0) (T' := (fun j => if j = o + 1 then false else T j)) r1 (Nat.le_refl _) (by show 0 = if (if o + 1 = o + 1 then false else T (o + 1)) = true then (1 : Int) else 0; rw [if_pos rfl]; rfl) (fun j hj => if_neg hj)
  refine a_aload_n (j := 3) dX9_takesE_151 rfl rfl (Nat.le_of_ble_eq_true rfl) ?_
  refine b_callV (d' := d - 1) (mc' := 0) (ms' := 0) (mc1 := 0) (ms1 := 0) (st := []) (b := 123) [] dX9_takesE_152 mwX9_go lkX9_256 (by decide) rfl rc_X9 rfl (Nat.le_of_ble_eq_true rfl) (by omega) rfl rfl (c_goR (by omega) hm hBr hK3 r2 (by omega) (fun hg6 rg6 => ?_))
  show Aj γ mX9_takesE d 0 0 Post 155 [(1, vI ((o + 1 : Nat) : Int)), (3, vI 1), (2, vI ((ntc W : Nat) : Int)), (0, vA 123)] [] (mk hg6 τ)
  refine a_goto (tgt := 172) dX9_takesE_155 (by decide) ?_
  refine a_aload_n (j := 3) dX9_takesE_172 rfl rfl (Nat.le_of_ble_eq_true rfl) ?_
  refine b_callV (d' := d - 1) (mc' := 0) (ms' := 0) (mc1 := 0) (ms1 := 0) (st := []) (b := 123) [] dX9_takesE_173 mwX9_notsOpen lkX9_281 (by decide) rfl rc_X9 rfl (Nat.le_of_ble_eq_true rfl) (by omega) rfl rfl (c_ntR rg6 (by show W.length + 1 ≤ 96; omega) ?_)
  show Aj γ mX9_takesE d 0 0 Post 176 [(1, vI ((o + 1 : Nat) : Int)), (3, vI 1), (2, vI ((ntc W : Nat) : Int)), (0, vA 123)] [vI ((ntc (-11 :: W) : Nat) : Int)] (mk hg6 τ)
  refine a_istore_n (lv' := [(2, vI ((ntc (-11 :: W) : Nat) : Int)), (1, vI ((o + 1 : Nat) : Int)), (3, vI 1), (0, vA 123)]) dX9_takesE_176 rfl (by decide) rfl ?_
  refine a_goto (tgt := 28) dX9_takesE_177 (by decide) ?_
  exact a_lv (lv' := [(3, vI 1), (2, vI ((ntc (-11 :: W) : Nat) : Int)), (1, vI ((o + 1 : Nat) : Int)), (0, vA 123)]) (by intro q hq; simp only [List.mem_cons, List.not_mem_nil, or_false] at hq ⊢; rcases hq with rfl | rfl | rfl | rfl <;> simp) (g (show W.length + 1 + C.length ≤ _ by omega) (wrW_c ⟨by decide, by decide⟩ hwr) (okW_o.mpr hok) (by omega) hg6 rg6)
set_option maxHeartbeats 8000000 in
theorem sy_leaf {γ : GT} {d : Nat} {B : Nat → Int} {n K : Nat} {h0 : Nat → Nat → Int} {τ : List AC} {Post : Option AV → List AC → Prop} (hd : 5 ≤ d) (hm : n ≤ 96) (hBr : ∀ k, 0 ≤ B k ∧ B k ≤ 255) (hK3 : K < 3) {t : Tk} {W C : List Int} {o : Nat} {T : Nat → Bool} (ha : t.1 = 1 ∨ t.1 = 2) (h1 : ¬ lfc B ((K : Nat) : Int) t = -1) (g : GLp γ d Post τ B n K h0 (nxt B n t) (W.dropWhile isNt) (C ++ [lfc B ((K : Nat) : Int) t] ++ W.takeWhile isNt) o false T) : GLp γ d Post τ B n K h0 t W C o true T := by
  intro hbd hwr hok ho h r
  have hV := r.1.2.2.2.2.2.2.2.2.2
  have hv1 := hV.1
  have hv2 := hV.2.1
  have hv3 := hV.2.2.2.1
  have hr3 := rtk_3 t
  have hr0 := rtk_0 t
  have hnl := ntc_le (W := W)
  have hnx := nxt_V (B := B) (n := n) (t := t) hv2
  have hv4 := hv3 (by omega)
  have hln : (W.dropWhile isNt).length + (C ++ [lfc B ((K : Nat) : Int) t] ++ W.takeWhile isNt).length ≤ (nxt B n t).2.1 := by
    have := List.length_append (as := W.takeWhile isNt) (bs := W.dropWhile isNt)
    rw [tdw] at this
    rw [List.length_append, List.length_append, List.length_singleton]
    omega
  show Aj γ mX9_takesE d 0 0 Post 28 [(3, vI 1), (2, vI ((ntc W : Nat) : Int)), (1, vI ((o : Nat) : Int)), (0, vA 123)] [] (mk h τ)
  refine a_iload_n (j := 0) dX9_takesE_28 rfl rfl ?_
  refine a_if_ne (tgt := 39) dX9_takesE_29 (by decide) (fun _ => ?_) (fun c => absurd c (by decide))
  refine a_iload_n (j := 0) dX9_takesE_39 rfl rfl ?_
  refine a_if_eq (tgt := 180) dX9_takesE_40 (by decide) (fun c => absurd c (by decide)) (fun _ => ?_)
  refine a_aload_n (j := 3) dX9_takesE_43 rfl rfl (Nat.le_of_ble_eq_true rfl) ?_
  refine b_get (a := 123) (z := (rtk t)) (t := 0) dX9_takesE_44 fwX9_241 (by decide) rfl (by decide) rfl rfl r.1.2.2.2.2.1 ?_
  refine a_iconst dX9_takesE_47 ⟨by decide, by decide⟩ ?_
  refine a_icmp_ne (tgt := 97) dX9_takesE_48 (by decide) (fun c48_1 => ?_) (fun c48_1 => absurd c48_1 (by omega))
  refine a_aload_n (j := 3) dX9_takesE_97 rfl rfl (Nat.le_of_ble_eq_true rfl) ?_
  refine b_get (a := 123) (z := (rtk t)) (t := 0) dX9_takesE_98 fwX9_241 (by decide) rfl (by decide) rfl rfl r.1.2.2.2.2.1 ?_
  refine a_iconst dX9_takesE_101 ⟨by decide, by decide⟩ ?_
  refine a_icmp_ne (tgt := 158) dX9_takesE_102 (by decide) (fun c102_2 => ?_) (fun c102_2 => absurd c102_2 (by omega))
  refine a_aload_n (j := 3) dX9_takesE_158 rfl rfl (Nat.le_of_ble_eq_true rfl) ?_
  refine b_callV (d' := d - 1) (mc' := 0) (ms' := 0) (mc1 := 0) (ms1 := 0) (st := []) (b := 123) [] dX9_takesE_159 mwX9_takesPart lkX9_277 (by decide) rfl rc_X9 rfl (Nat.le_of_ble_eq_true rfl) (by omega) rfl rfl (c_partT (by omega) hm hBr hK3 r (by omega) hwr ha h1 (fun hp1 rp1 => ?_))
  show Aj γ mX9_takesE d 0 0 Post 162 [(3, vI 1), (2, vI ((ntc W : Nat) : Int)), (1, vI ((o : Nat) : Int)), (0, vA 123)] [vI 1] (mk hp1 τ)
  refine a_if_eq (tgt := 170) dX9_takesE_162 (by decide) (fun c => absurd c (by decide)) (fun _ => ?_)
  refine a_iconst dX9_takesE_165 ⟨by decide, by decide⟩ ?_
  refine a_istore_n (lv' := [(3, vI 0), (2, vI ((ntc W : Nat) : Int)), (1, vI ((o : Nat) : Int)), (0, vA 123)]) dX9_takesE_166 rfl (by decide) rfl ?_
  refine a_goto (tgt := 172) dX9_takesE_167 (by decide) ?_
  refine a_aload_n (j := 3) dX9_takesE_172 rfl rfl (Nat.le_of_ble_eq_true rfl) ?_
  refine b_callV (d' := d - 1) (mc' := 0) (ms' := 0) (mc1 := 0) (ms1 := 0) (st := []) (b := 123) [] dX9_takesE_173 mwX9_notsOpen lkX9_281 (by decide) rfl rc_X9 rfl (Nat.le_of_ble_eq_true rfl) (by omega) rfl rfl (c_ntR rp1 (by have := List.length_append (as := W.takeWhile isNt) (bs := W.dropWhile isNt); rw [tdw] at this; omega) ?_)
  show Aj γ mX9_takesE d 0 0 Post 176 [(3, vI 0), (2, vI ((ntc W : Nat) : Int)), (1, vI ((o : Nat) : Int)), (0, vA 123)] [vI ((ntc (W.dropWhile isNt) : Nat) : Int)] (mk hp1 τ)
  refine a_istore_n (lv' := [(2, vI ((ntc (W.dropWhile isNt) : Nat) : Int)), (3, vI 0), (1, vI ((o : Nat) : Int)), (0, vA 123)]) dX9_takesE_176 rfl (by decide) rfl ?_
  refine a_goto (tgt := 28) dX9_takesE_177 (by decide) ?_
  exact a_lv (lv' := [(3, vI 0), (2, vI ((ntc (W.dropWhile isNt) : Nat) : Int)), (1, vI ((o : Nat) : Int)), (0, vA 123)]) (by intro q hq; simp only [List.mem_cons, List.not_mem_nil, or_false] at hq ⊢; rcases hq with rfl | rfl | rfl | rfl <;> simp) (g hln (wrW_dw hwr) (okW_dn hok) ho hp1 rp1)
set_option maxHeartbeats 8000000 in
theorem sy_none {γ : GT} {d : Nat} {B : Nat → Int} {n K : Nat} {h0 : Nat → Nat → Int} {τ : List AC} {Post : Option AV → List AC → Prop} (hd : 5 ≤ d) (hm : n ≤ 96) (hBr : ∀ k, 0 ≤ B k ∧ B k ≤ 255) (hK3 : K < 3) {t : Tk} {W C : List Int} {o : Nat} {T : Nat → Bool} (ha : (t.1 = 1 ∨ t.1 = 2) → lfc B ((K : Nat) : Int) t = -1) (h1 : ¬ (t.1 = 3 ∧ B t.2.1 = 33 ∧ ntc W < 8)) (h2 : ¬ (t.1 = 3 ∧ B t.2.1 = 40 ∧ o < 8)) (f : FLp Post τ B n K h0 t) : GLp γ d Post τ B n K h0 t W C o true T := by
  intro hbd hwr hok ho h r
  have hV := r.1.2.2.2.2.2.2.2.2.2
  have hv1 := hV.1
  have hv2 := hV.2.1
  have hv3 := hV.2.2.2.1
  have hr3 := rtk_3 t
  have hr0 := rtk_0 t
  have hnl := ntc_le (W := W)
  have hnx := nxt_V (B := B) (n := n) (t := t) hv2
  show Aj γ mX9_takesE d 0 0 Post 28 [(3, vI 1), (2, vI ((ntc W : Nat) : Int)), (1, vI ((o : Nat) : Int)), (0, vA 123)] [] (mk h τ)
  refine a_iload_n (j := 0) dX9_takesE_28 rfl rfl ?_
  refine a_if_ne (tgt := 39) dX9_takesE_29 (by decide) (fun _ => ?_) (fun c => absurd c (by decide))
  refine a_iload_n (j := 0) dX9_takesE_39 rfl rfl ?_
  refine a_if_eq (tgt := 180) dX9_takesE_40 (by decide) (fun c => absurd c (by decide)) (fun _ => ?_)
  refine a_aload_n (j := 3) dX9_takesE_43 rfl rfl (Nat.le_of_ble_eq_true rfl) ?_
  refine b_get (a := 123) (z := (rtk t)) (t := 0) dX9_takesE_44 fwX9_241 (by decide) rfl (by decide) rfl rfl r.1.2.2.2.2.1 ?_
  refine a_iconst dX9_takesE_47 ⟨by decide, by decide⟩ ?_
  refine a_icmp_ne (tgt := 97) dX9_takesE_48 (by decide) (fun c48_1 => ?_) (fun c48_1 => ?_)
  · refine a_aload_n (j := 3) dX9_takesE_97 rfl rfl (Nat.le_of_ble_eq_true rfl) ?_
    refine b_get (a := 123) (z := (rtk t)) (t := 0) dX9_takesE_98 fwX9_241 (by decide) rfl (by decide) rfl rfl r.1.2.2.2.2.1 ?_
    refine a_iconst dX9_takesE_101 ⟨by decide, by decide⟩ ?_
    refine a_icmp_ne (tgt := 158) dX9_takesE_102 (by decide) (fun c102_2 => ?_) (fun c102_2 => absurd c102_2 (by omega))
    refine a_aload_n (j := 3) dX9_takesE_158 rfl rfl (Nat.le_of_ble_eq_true rfl) ?_
    refine b_callV (d' := d - 1) (mc' := 0) (ms' := 0) (mc1 := 0) (ms1 := 0) (st := []) (b := 123) [] dX9_takesE_159 mwX9_takesPart lkX9_277 (by decide) rfl rc_X9 rfl (Nat.le_of_ble_eq_true rfl) (by omega) rfl rfl (c_partF (by omega) hm r ha ?_)
    show Aj γ mX9_takesE d 0 0 Post 162 [(3, vI 1), (2, vI ((ntc W : Nat) : Int)), (1, vI ((o : Nat) : Int)), (0, vA 123)] [vI 0] (mk h τ)
    refine a_if_eq (tgt := 170) dX9_takesE_162 (by decide) (fun _ => ?_) (fun c => absurd c (by decide))
    refine a_iconst dX9_takesE_170 ⟨by decide, by decide⟩ ?_
    exact a_zret dX9_takesE_171 rfl (by first | exact Or.inl rfl | exact Or.inr rfl | omega) (f h W C o T r)
  · refine a_aload_n (j := 3) dX9_takesE_51 rfl rfl (Nat.le_of_ble_eq_true rfl) ?_
    refine b_get (a := 123) (z := (B t.2.1)) (t := 0) dX9_takesE_52 fwX9_247 (by decide) rfl (by decide) rfl rfl (r.1.2.2.2.2.2.1 (Or.inr (by omega))) ?_
    refine a_bipush dX9_takesE_55 ⟨by decide, by decide, by decide⟩ ?_
    refine a_icmp_ne (tgt := 97) dX9_takesE_57 (by decide) (fun c57_3 => ?_) (fun c57_3 => ?_)
    · refine a_aload_n (j := 3) dX9_takesE_97 rfl rfl (Nat.le_of_ble_eq_true rfl) ?_
      refine b_get (a := 123) (z := (rtk t)) (t := 0) dX9_takesE_98 fwX9_241 (by decide) rfl (by decide) rfl rfl r.1.2.2.2.2.1 ?_
      refine a_iconst dX9_takesE_101 ⟨by decide, by decide⟩ ?_
      refine a_icmp_ne (tgt := 158) dX9_takesE_102 (by decide) (fun c102_4 => absurd c102_4 (by omega)) (fun c102_4 => ?_)
      refine a_aload_n (j := 3) dX9_takesE_105 rfl rfl (Nat.le_of_ble_eq_true rfl) ?_
      refine b_get (a := 123) (z := (B t.2.1)) (t := 0) dX9_takesE_106 fwX9_247 (by decide) rfl (by decide) rfl rfl (r.1.2.2.2.2.2.1 (Or.inr (by omega))) ?_
      refine a_bipush dX9_takesE_109 ⟨by decide, by decide, by decide⟩ ?_
      refine a_icmp_ne (tgt := 158) dX9_takesE_111 (by decide) (fun c111_5 => ?_) (fun c111_5 => ?_)
      · refine a_aload_n (j := 3) dX9_takesE_158 rfl rfl (Nat.le_of_ble_eq_true rfl) ?_
        refine b_callV (d' := d - 1) (mc' := 0) (ms' := 0) (mc1 := 0) (ms1 := 0) (st := []) (b := 123) [] dX9_takesE_159 mwX9_takesPart lkX9_277 (by decide) rfl rc_X9 rfl (Nat.le_of_ble_eq_true rfl) (by omega) rfl rfl (c_partF (by omega) hm r ha ?_)
        show Aj γ mX9_takesE d 0 0 Post 162 [(3, vI 1), (2, vI ((ntc W : Nat) : Int)), (1, vI ((o : Nat) : Int)), (0, vA 123)] [vI 0] (mk h τ)
        refine a_if_eq (tgt := 170) dX9_takesE_162 (by decide) (fun _ => ?_) (fun c => absurd c (by decide))
        refine a_iconst dX9_takesE_170 ⟨by decide, by decide⟩ ?_
        exact a_zret dX9_takesE_171 rfl (by first | exact Or.inl rfl | exact Or.inr rfl | omega) (f h W C o T r)
      · refine a_iload_n (j := 2) dX9_takesE_114 rfl rfl ?_
        refine a_bipush dX9_takesE_115 ⟨by decide, by decide, by decide⟩ ?_
        refine a_icmp_ge (tgt := 158) dX9_takesE_117 (by decide) (fun c117_6 => ?_) (fun c117_6 => ?_)
        · refine a_aload_n (j := 3) dX9_takesE_158 rfl rfl (Nat.le_of_ble_eq_true rfl) ?_
          refine b_callV (d' := d - 1) (mc' := 0) (ms' := 0) (mc1 := 0) (ms1 := 0) (st := []) (b := 123) [] dX9_takesE_159 mwX9_takesPart lkX9_277 (by decide) rfl rc_X9 rfl (Nat.le_of_ble_eq_true rfl) (by omega) rfl rfl (c_partF (by omega) hm r ha ?_)
          show Aj γ mX9_takesE d 0 0 Post 162 [(3, vI 1), (2, vI ((ntc W : Nat) : Int)), (1, vI ((o : Nat) : Int)), (0, vA 123)] [vI 0] (mk h τ)
          refine a_if_eq (tgt := 170) dX9_takesE_162 (by decide) (fun _ => ?_) (fun c => absurd c (by decide))
          refine a_iconst dX9_takesE_170 ⟨by decide, by decide⟩ ?_
          exact a_zret dX9_takesE_171 rfl (by first | exact Or.inl rfl | exact Or.inr rfl | omega) (f h W C o T r)
        · exfalso
          exact h2 ⟨by omega, by omega, by omega⟩
    · refine a_iload_n (j := 1) dX9_takesE_60 rfl rfl ?_
      refine a_bipush dX9_takesE_61 ⟨by decide, by decide, by decide⟩ ?_
      refine a_icmp_ge (tgt := 97) dX9_takesE_63 (by decide) (fun c63_7 => ?_) (fun c63_7 => ?_)
      · refine a_aload_n (j := 3) dX9_takesE_97 rfl rfl (Nat.le_of_ble_eq_true rfl) ?_
        refine b_get (a := 123) (z := (rtk t)) (t := 0) dX9_takesE_98 fwX9_241 (by decide) rfl (by decide) rfl rfl r.1.2.2.2.2.1 ?_
        refine a_iconst dX9_takesE_101 ⟨by decide, by decide⟩ ?_
        refine a_icmp_ne (tgt := 158) dX9_takesE_102 (by decide) (fun c102_8 => absurd c102_8 (by omega)) (fun c102_8 => ?_)
        refine a_aload_n (j := 3) dX9_takesE_105 rfl rfl (Nat.le_of_ble_eq_true rfl) ?_
        refine b_get (a := 123) (z := (B t.2.1)) (t := 0) dX9_takesE_106 fwX9_247 (by decide) rfl (by decide) rfl rfl (r.1.2.2.2.2.2.1 (Or.inr (by omega))) ?_
        refine a_bipush dX9_takesE_109 ⟨by decide, by decide, by decide⟩ ?_
        refine a_icmp_ne (tgt := 158) dX9_takesE_111 (by decide) (fun c111_9 => ?_) (fun c111_9 => absurd c111_9 (by omega))
        refine a_aload_n (j := 3) dX9_takesE_158 rfl rfl (Nat.le_of_ble_eq_true rfl) ?_
        refine b_callV (d' := d - 1) (mc' := 0) (ms' := 0) (mc1 := 0) (ms1 := 0) (st := []) (b := 123) [] dX9_takesE_159 mwX9_takesPart lkX9_277 (by decide) rfl rc_X9 rfl (Nat.le_of_ble_eq_true rfl) (by omega) rfl rfl (c_partF (by omega) hm r ha ?_)
        show Aj γ mX9_takesE d 0 0 Post 162 [(3, vI 1), (2, vI ((ntc W : Nat) : Int)), (1, vI ((o : Nat) : Int)), (0, vA 123)] [vI 0] (mk h τ)
        refine a_if_eq (tgt := 170) dX9_takesE_162 (by decide) (fun _ => ?_) (fun c => absurd c (by decide))
        refine a_iconst dX9_takesE_170 ⟨by decide, by decide⟩ ?_
        exact a_zret dX9_takesE_171 rfl (by first | exact Or.inl rfl | exact Or.inr rfl | omega) (f h W C o T r)
      · exfalso
        exact h1 ⟨by omega, by omega, by omega⟩
set_option maxHeartbeats 8000000 in
theorem sy_close {γ : GT} {d : Nat} {B : Nat → Int} {n K : Nat} {h0 : Nat → Nat → Int} {τ : List AC} {Post : Option AV → List AC → Prop} (hd : 5 ≤ d) (hm : n ≤ 96) (hBr : ∀ k, 0 ≤ B k ∧ B k ≤ 255) (hK3 : K < 3) {t : Tk} {p W C : List Int} {o : Nat} {T : Nat → Bool} (h0' : t.1 = 3) (h1 : B t.2.1 = 41) (hp : ∀ x : Int, x ∈ p → ¬ x = -11) (g : GLp γ d Post τ B n K h0 (nxt B n t) (W.dropWhile isNt) (C ++ p ++ W.takeWhile isNt) o false T) : GLp γ d Post τ B n K h0 t (p ++ -11 :: W) C (o + 1) false T := by
  intro hbd hwr hok ho h r
  have hV := r.1.2.2.2.2.2.2.2.2.2
  have hv1 := hV.1
  have hv2 := hV.2.1
  have hv3 := hV.2.2.2.1
  have hr3 := rtk_3 t
  have hr0 := rtk_0 t
  have hnl := ntc_le (W := (p ++ -11 :: W))
  have hnx := nxt_V (B := B) (n := n) (t := t) hv2
  have hv4 := hv3 (by omega)
  have hlp := List.length_append (as := p) (bs := -11 :: W)
  have hlc : (-11 :: W : List Int).length = W.length + 1 := rfl
  have hwW : wrW W := fun x hx => hwr x (List.mem_append_right _ (List.mem_cons_of_mem _ hx))
  have hoW := (okW_p hp hok).1
  have hcp := List.length_append (as := C) (bs := p)
  have hln : (W.dropWhile isNt).length + (C ++ p ++ W.takeWhile isNt).length ≤ (nxt B n t).2.1 := by
    have := List.length_append (as := W.takeWhile isNt) (bs := W.dropWhile isNt)
    rw [tdw] at this
    rw [List.length_append, List.length_append]
    omega
  show Aj γ mX9_takesE d 0 0 Post 28 [(3, vI 0), (2, vI ((ntc (p ++ -11 :: W) : Nat) : Int)), (1, vI (((o + 1) : Nat) : Int)), (0, vA 123)] [] (mk h τ)
  refine a_iload_n (j := 0) dX9_takesE_28 rfl rfl ?_
  refine a_if_ne (tgt := 39) dX9_takesE_29 (by decide) (fun c => absurd c (by decide)) (fun _ => ?_)
  refine a_aload_n (j := 3) dX9_takesE_32 rfl rfl (Nat.le_of_ble_eq_true rfl) ?_
  refine b_get (a := 123) (z := (rtk t)) (t := 0) dX9_takesE_33 fwX9_241 (by decide) rfl (by decide) rfl rfl r.1.2.2.2.2.1 ?_
  refine a_if_eq (tgt := 345) dX9_takesE_36 (by decide) (fun c36_1 => absurd c36_1 (by omega)) (fun c36_1 => ?_)
  refine a_iload_n (j := 0) dX9_takesE_39 rfl rfl ?_
  refine a_if_eq (tgt := 180) dX9_takesE_40 (by decide) (fun _ => ?_) (fun c => absurd c (by decide))
  refine a_aload_n (j := 3) dX9_takesE_180 rfl rfl (Nat.le_of_ble_eq_true rfl) ?_
  refine b_get (a := 123) (z := (rtk t)) (t := 0) dX9_takesE_181 fwX9_241 (by decide) rfl (by decide) rfl rfl r.1.2.2.2.2.1 ?_
  refine a_iconst dX9_takesE_184 ⟨by decide, by decide⟩ ?_
  refine a_icmp_ne (tgt := 237) dX9_takesE_185 (by decide) (fun c185_2 => absurd c185_2 (by omega)) (fun c185_2 => ?_)
  refine a_aload_n (j := 3) dX9_takesE_188 rfl rfl (Nat.le_of_ble_eq_true rfl) ?_
  refine b_get (a := 123) (z := (B t.2.1)) (t := 0) dX9_takesE_189 fwX9_247 (by decide) rfl (by decide) rfl rfl (r.1.2.2.2.2.2.1 (Or.inr (by omega))) ?_
  refine a_bipush dX9_takesE_192 ⟨by decide, by decide, by decide⟩ ?_
  refine a_icmp_ne (tgt := 237) dX9_takesE_194 (by decide) (fun c194_3 => absurd c194_3 (by omega)) (fun c194_3 => ?_)
  refine a_iload_n (j := 2) dX9_takesE_197 rfl rfl ?_
  refine a_if_le (tgt := 237) dX9_takesE_198 (by decide) (fun c198_4 => absurd c198_4 (by omega)) (fun c198_4 => ?_)
  refine a_aload_n (j := 3) dX9_takesE_201 rfl rfl (Nat.le_of_ble_eq_true rfl) ?_
  refine a_iconst dX9_takesE_202 ⟨by decide, by decide⟩ ?_
  refine b_callV (d' := d - 1) (mc' := 0) (ms' := 0) (mc1 := 0) (ms1 := 0) (st := []) (b := 123) [vI 0] dX9_takesE_203 mwX9_settle lkX9_274 (by decide) rfl rc_X9 rfl (Nat.le_of_ble_eq_true rfl) (by omega) rfl rfl (c_setR (p := p) (V := (-11 :: W)) (by omega) r (by omega) hwr (fun x hx => ⟨hp x hx, by have := rkF_rng x; omega⟩) (fun y q e => by injection e with e1 e2; exact Or.inl e1.symm) (fun hs5 rs5 => ?_))
  show Aj γ mX9_takesE d 0 0 Post 206 [(3, vI 0), (2, vI ((ntc (p ++ -11 :: W) : Nat) : Int)), (1, vI (((o + 1) : Nat) : Int)), (0, vA 123)] [] (mk hs5 τ)
  refine a_aload_n (j := 3) dX9_takesE_206 rfl rfl (Nat.le_of_ble_eq_true rfl) ?_
  refine a_dup dX9_takesE_207 (fun h => nomatch h) ?_
  refine b_get (a := 123) (z := (((-11 :: W).length : Nat) : Int)) (t := 0) dX9_takesE_208 fwX9_259 (by decide) rfl (by decide) rfl rfl rs5.2.1.1 ?_
  refine a_iconst dX9_takesE_211 ⟨by decide, by decide⟩ ?_
  refine a_isub (z := ((W.length : Nat) : Int)) dX9_takesE_212 (w_okN (by omega) (by omega) (by omega)) ?_
  refine b_put (a := 123) (v := vI ((W.length : Nat) : Int)) dX9_takesE_213 pwX9_259 (fun h => nomatch h) (by decide) rfl (by decide) rfl rfl (fit_int _) ?_
  show Aj γ mX9_takesE d 0 0 Post 216 [(3, vI 0), (2, vI ((ntc (p ++ -11 :: W) : Nat) : Int)), (1, vI (((o + 1) : Nat) : Int)), (0, vA 123)] [] (mk (up2 hs5 123 30 ((W.length : Nat) : Int)) τ)
  have r4 : RES B n K h0 (up2 hs5 123 30 ((W.length : Nat) : Int)) t (W.takeWhile isNt ++ W.dropWhile isNt) (C ++ p) o T := by rw [tdw]; exact RES_o (Nat.le_succ o) (RES_pop rs5)
  refine a_iinc (j := 2) (z' := ((((o + 1) : Nat) : Int) - 1)) (lv' := [(1, vI ((((o + 1) : Nat) : Int) - 1)), (3, vI 0), (2, vI ((ntc (p ++ -11 :: W) : Nat) : Int)), (0, vA 123)]) dX9_takesE_216 rfl (w_ok (by omega) (by omega)) (by decide) rfl ?_
  refine a_aload_n (j := 3) dX9_takesE_219 rfl rfl (Nat.le_of_ble_eq_true rfl) ?_
  refine a_bipush dX9_takesE_220 ⟨by decide, by decide, by decide⟩ ?_
  refine b_callV (d' := d - 1) (mc' := 0) (ms' := 0) (mc1 := 0) (ms1 := 0) (st := []) (b := 123) [vI 6] dX9_takesE_222 mwX9_settle lkX9_274 (by decide) rfl rc_X9 rfl (Nat.le_of_ble_eq_true rfl) (by omega) rfl rfl (c_setR (p := (W.takeWhile isNt)) (V := (W.dropWhile isNt)) (by omega) r4 (by rw [tdw]; omega) (by rw [tdw]; exact hwW) (fun x hx => by rw [tw_all x hx]; decide) (dw_hd hwW) (fun hs6 rs6 => ?_))
  show Aj γ mX9_takesE d 0 0 Post 225 [(1, vI ((((o + 1) : Nat) : Int) - 1)), (3, vI 0), (2, vI ((ntc (p ++ -11 :: W) : Nat) : Int)), (0, vA 123)] [] (mk hs6 τ)
  refine a_aload_n (j := 3) dX9_takesE_225 rfl rfl (Nat.le_of_ble_eq_true rfl) ?_
  refine b_callV (d' := d - 1) (mc' := 0) (ms' := 0) (mc1 := 0) (ms1 := 0) (st := []) (b := 123) [] dX9_takesE_226 mwX9_notsOpen lkX9_281 (by decide) rfl rc_X9 rfl (Nat.le_of_ble_eq_true rfl) (by omega) rfl rfl (c_ntR rs6 (by have := List.length_append (as := W.takeWhile isNt) (bs := W.dropWhile isNt); rw [tdw] at this; omega) ?_)
  show Aj γ mX9_takesE d 0 0 Post 229 [(1, vI ((((o + 1) : Nat) : Int) - 1)), (3, vI 0), (2, vI ((ntc (p ++ -11 :: W) : Nat) : Int)), (0, vA 123)] [vI ((ntc (W.dropWhile isNt) : Nat) : Int)] (mk hs6 τ)
  refine a_istore_n (lv' := [(2, vI ((ntc (W.dropWhile isNt) : Nat) : Int)), (1, vI ((((o + 1) : Nat) : Int) - 1)), (3, vI 0), (0, vA 123)]) dX9_takesE_229 rfl (by decide) rfl ?_
  refine a_aload_n (j := 3) dX9_takesE_230 rfl rfl (Nat.le_of_ble_eq_true rfl) ?_
  refine b_callV (d' := d - 1) (mc' := 0) (ms' := 0) (mc1 := 0) (ms1 := 0) (st := []) (b := 123) [] dX9_takesE_231 mwX9_go lkX9_256 (by decide) rfl rc_X9 rfl (Nat.le_of_ble_eq_true rfl) (by omega) rfl rfl (c_goR (by omega) hm hBr hK3 rs6 (by omega) (fun hg7 rg7 => ?_))
  show Aj γ mX9_takesE d 0 0 Post 234 [(2, vI ((ntc (W.dropWhile isNt) : Nat) : Int)), (1, vI ((((o + 1) : Nat) : Int) - 1)), (3, vI 0), (0, vA 123)] [] (mk hg7 τ)
  refine a_goto (tgt := 28) dX9_takesE_234 (by decide) ?_
  exact a_lv (lv' := [(3, vI 0), (2, vI ((ntc (W.dropWhile isNt) : Nat) : Int)), (1, vI ((o : Nat) : Int)), (0, vA 123)]) (by intro q hq; simp only [List.mem_cons, List.not_mem_nil, or_false] at hq ⊢; rcases hq with rfl | rfl | rfl | rfl <;> simp) (g hln (wrW_dw hwW) (okW_dn (okW_o.mp hoW)) (by omega) hg7 rg7)
set_option maxHeartbeats 8000000 in
theorem sy_sign1 {γ : GT} {d : Nat} {B : Nat → Int} {n K : Nat} {h0 : Nat → Nat → Int} {τ : List AC} {Post : Option AV → List AC → Prop} (hd : 5 ≤ d) (hm : n ≤ 96) (hBr : ∀ k, 0 ≤ B k ∧ B k ≤ 255) (hK3 : K < 3) {t : Tk} {p W C : List Int} {o : Nat} {T : Nat → Bool} (hTo : T o = true) (h0' : ¬ sgT B t = 0) (h1 : ¬ (rkF (sgT B t) = 3 ∧ T o = true)) (hp : ∀ x : Int, x ∈ p → ¬ x = -11 ∧ rkF (sgT B t) ≤ rkF x) (hW : ∀ (x : Int) (r : List Int), W = x :: r → x = -11 ∨ rkF x < rkF (sgT B t)) (g : GLp γ d Post τ B n K h0 (nxt B n t) (sgT B t :: W) (C ++ p) o true (fun j => if j = o then (decide (rkF (sgT B t) = 3) || (decide (3 < rkF (sgT B t)) && T j)) else T j)) : GLp γ d Post τ B n K h0 t (p ++ W) C o false T := by
  intro hbd hwr hok ho h r
  have hV := r.1.2.2.2.2.2.2.2.2.2
  have hv1 := hV.1
  have hv2 := hV.2.1
  have hv3 := hV.2.2.2.1
  have hr3 := rtk_3 t
  have hr0 := rtk_0 t
  have hnl := ntc_le (W := (p ++ W))
  have hnx := nxt_V (B := B) (n := n) (t := t) hv2
  have hk3 := sg_k h0'
  have hv4 := hv3 (by omega)
  have hsg := rk_sg h0'
  have hsr := sgT_rng h0'
  replace hsr : -11 ≤ sgT B t ∧ sgT B t ≤ -1 := ⟨by omega, by omega⟩
  have hb41 : ¬ B t.2.1 = 41 := fun q => by
    apply h0'
    unfold sgT
    rw [if_pos hk3, q]
    rfl
  have hlp := List.length_append (as := p) (bs := W)
  have hcp := List.length_append (as := C) (bs := p)
  have hoW := okW_p (fun x hx => (hp x hx).1) hok
  have hln : (sgT B t :: W).length + (C ++ p).length ≤ (nxt B n t).2.1 := by rw [List.length_cons]; omega
  show Aj γ mX9_takesE d 0 0 Post 28 [(3, vI 0), (2, vI ((ntc (p ++ W) : Nat) : Int)), (1, vI ((o : Nat) : Int)), (0, vA 123)] [] (mk h τ)
  refine a_iload_n (j := 0) dX9_takesE_28 rfl rfl ?_
  refine a_if_ne (tgt := 39) dX9_takesE_29 (by decide) (fun c => absurd c (by decide)) (fun _ => ?_)
  refine a_aload_n (j := 3) dX9_takesE_32 rfl rfl (Nat.le_of_ble_eq_true rfl) ?_
  refine b_get (a := 123) (z := (rtk t)) (t := 0) dX9_takesE_33 fwX9_241 (by decide) rfl (by decide) rfl rfl r.1.2.2.2.2.1 ?_
  refine a_if_eq (tgt := 345) dX9_takesE_36 (by decide) (fun c36_1 => absurd c36_1 (by omega)) (fun c36_1 => ?_)
  refine a_iload_n (j := 0) dX9_takesE_39 rfl rfl ?_
  refine a_if_eq (tgt := 180) dX9_takesE_40 (by decide) (fun _ => ?_) (fun c => absurd c (by decide))
  refine a_aload_n (j := 3) dX9_takesE_180 rfl rfl (Nat.le_of_ble_eq_true rfl) ?_
  refine b_get (a := 123) (z := (rtk t)) (t := 0) dX9_takesE_181 fwX9_241 (by decide) rfl (by decide) rfl rfl r.1.2.2.2.2.1 ?_
  refine a_iconst dX9_takesE_184 ⟨by decide, by decide⟩ ?_
  refine a_icmp_ne (tgt := 237) dX9_takesE_185 (by decide) (fun c185_2 => ?_) (fun c185_2 => ?_)
  · refine a_aload_n (j := 3) dX9_takesE_237 rfl rfl (Nat.le_of_ble_eq_true rfl) ?_
    refine b_callV (d' := d - 1) (mc' := 0) (ms' := 0) (mc1 := 0) (ms1 := 0) (st := []) (b := 123) [] dX9_takesE_238 mwX9_signHere lkX9_284 (by decide) rfl rc_X9 rfl (Nat.le_of_ble_eq_true rfl) (by omega) rfl rfl (c_sgR r ?_)
    show Aj γ mX9_takesE d 0 0 Post 241 [(3, vI 0), (2, vI ((ntc (p ++ W) : Nat) : Int)), (1, vI ((o : Nat) : Int)), (0, vA 123)] [vI (sgT B t)] (mk h τ)
    refine a_istore (lv' := [(4, vI (sgT B t)), (3, vI 0), (2, vI ((ntc (p ++ W) : Nat) : Int)), (1, vI ((o : Nat) : Int)), (0, vA 123)]) dX9_takesE_241 (by decide) rfl ?_
    refine a_iload (j := 0) dX9_takesE_243 rfl ?_
    refine a_if_eq (tgt := 266) dX9_takesE_245 (by decide) (fun c245_3 => absurd c245_3 (by omega)) (fun c245_3 => ?_)
    refine a_iload (j := 0) dX9_takesE_248 rfl ?_
    refine a_callS (d' := d - 1) (mc' := 0) (ms' := 0) (mc1 := 0) (ms1 := 0) (st := []) [vI (sgT B t)] dX9_takesE_250 mwX9_rank lkX9_262 rfl (Nat.le_of_ble_eq_true rfl) (by omega) rfl rfl (c_rk ?_)
    show Aj γ mX9_takesE d 0 0 Post 253 [(4, vI (sgT B t)), (3, vI 0), (2, vI ((ntc (p ++ W) : Nat) : Int)), (1, vI ((o : Nat) : Int)), (0, vA 123)] [vI (rkF (sgT B t))] (mk h τ)
    refine a_iconst dX9_takesE_253 ⟨by decide, by decide⟩ ?_
    refine a_icmp_ne (tgt := 268) dX9_takesE_254 (by decide) (fun c254_4 => ?_) (fun c254_4 => ?_)
    · refine a_aload_n (j := 4) dX9_takesE_268 rfl rfl (Nat.le_of_ble_eq_true rfl) ?_
      refine b_getp (a := 123) (p := 142) dX9_takesE_269 fwX9_66 (by decide) rfl (by decide) rfl rfl ?_
      refine a_iload_n (j := 3) dX9_takesE_272 rfl rfl ?_
      refine a_iload (j := 0) dX9_takesE_273 rfl ?_
      refine a_callS (d' := d - 1) (mc' := 0) (ms' := 0) (mc1 := 0) (ms1 := 0) (st := [vI ((o : Nat) : Int), vA 142]) [vI (sgT B t)] dX9_takesE_275 mwX9_rank lkX9_262 rfl (Nat.le_of_ble_eq_true rfl) (by omega) rfl rfl (c_rk ?_)
      show Aj γ mX9_takesE d 0 0 Post 278 [(4, vI (sgT B t)), (3, vI 0), (2, vI ((ntc (p ++ W) : Nat) : Int)), (1, vI ((o : Nat) : Int)), (0, vA 123)] [vI (rkF (sgT B t)), vI ((o : Nat) : Int), vA 142] (mk h τ)
      refine a_iconst dX9_takesE_278 ⟨by decide, by decide⟩ ?_
      refine a_icmp_eq (tgt := 300) dX9_takesE_279 (by decide) (fun c279_5 => absurd c279_5 (by omega)) (fun c279_5 => ?_)
      refine a_iload (j := 0) dX9_takesE_282 rfl ?_
      refine a_callS (d' := d - 1) (mc' := 0) (ms' := 0) (mc1 := 0) (ms1 := 0) (st := [vI ((o : Nat) : Int), vA 142]) [vI (sgT B t)] dX9_takesE_284 mwX9_rank lkX9_262 rfl (Nat.le_of_ble_eq_true rfl) (by omega) rfl rfl (c_rk ?_)
      show Aj γ mX9_takesE d 0 0 Post 287 [(4, vI (sgT B t)), (3, vI 0), (2, vI ((ntc (p ++ W) : Nat) : Int)), (1, vI ((o : Nat) : Int)), (0, vA 123)] [vI (rkF (sgT B t)), vI ((o : Nat) : Int), vA 142] (mk h τ)
      refine a_iconst dX9_takesE_287 ⟨by decide, by decide⟩ ?_
      refine a_icmp_le (tgt := 304) dX9_takesE_288 (by decide) (fun c288_6 => ?_) (fun c288_6 => ?_)
      · refine a_iconst dX9_takesE_304 ⟨by decide, by decide⟩ ?_
        refine b_zastore (a := 142) (z := 0) o dX9_takesE_305 (by decide) rfl rfl (by omega) (sp_nil rfl _) (by decide) ⟨by decide, by decide⟩ ?_
        have r2 := RES_t (o' := o) (v := 0) (T' := (fun j => if j = o then (decide (rkF (sgT B t) = 3) || (decide (3 < rkF (sgT B t)) && T j)) else T j)) r (Nat.le_succ o) (by show 0 = if (if o = o then (decide (rkF (sgT B t) = 3) || (decide (3 < rkF (sgT B t)) && T o)) else T o) = true then (1 : Int) else 0; rw [if_pos rfl, hTo]; by_cases z1 : rkF (sgT B t) = 3 <;> by_cases z2 : 3 < rkF (sgT B t) <;> simp [z1, z2] <;> omega) (fun j hj => if_neg hj)
        refine a_aload_n (j := 4) dX9_takesE_306 rfl rfl (Nat.le_of_ble_eq_true rfl) ?_
        refine a_iload (j := 0) dX9_takesE_307 rfl ?_
        refine a_callS (d' := d - 1) (mc' := 0) (ms' := 0) (mc1 := 0) (ms1 := 0) (st := [vA 123]) [vI (sgT B t)] dX9_takesE_309 mwX9_rank lkX9_262 rfl (Nat.le_of_ble_eq_true rfl) (by omega) rfl rfl (c_rk ?_)
        show Aj γ mX9_takesE d 0 0 Post 312 [(4, vI (sgT B t)), (3, vI 0), (2, vI ((ntc (p ++ W) : Nat) : Int)), (1, vI ((o : Nat) : Int)), (0, vA 123)] [vI (rkF (sgT B t)), vA 123] (mk (up2 h 142 o 0) τ)
        refine b_callV (d' := d - 1) (mc' := 0) (ms' := 0) (mc1 := 0) (ms1 := 0) (st := []) (b := 123) [vI (rkF (sgT B t))] dX9_takesE_312 mwX9_settle lkX9_274 (by decide) rfl rc_X9 rfl (Nat.le_of_ble_eq_true rfl) (by omega) rfl rfl (c_setR (p := p) (V := W) (by omega) r2 (by omega) hwr hp hW (fun hs7 rs7 => ?_))
        show Aj γ mX9_takesE d 0 0 Post 315 [(4, vI (sgT B t)), (3, vI 0), (2, vI ((ntc (p ++ W) : Nat) : Int)), (1, vI ((o : Nat) : Int)), (0, vA 123)] [] (mk hs7 τ)
        refine a_aload_n (j := 4) dX9_takesE_315 rfl rfl (Nat.le_of_ble_eq_true rfl) ?_
        refine b_getp (a := 123) (p := 141) dX9_takesE_316 fwX9_63 (by decide) rfl (by decide) rfl rfl ?_
        refine a_aload_n (j := 4) dX9_takesE_319 rfl rfl (Nat.le_of_ble_eq_true rfl) ?_
        refine b_get (a := 123) (z := ((W.length : Nat) : Int)) (t := 0) dX9_takesE_320 fwX9_259 (by decide) rfl (by decide) rfl rfl rs7.2.1.1 ?_
        refine a_iload (j := 0) dX9_takesE_323 rfl ?_
        refine b_iastore (a := 141) W.length dX9_takesE_325 (by decide) rfl rfl (by omega) (sp_nil rfl _) ?_
        refine a_aload_n (j := 4) dX9_takesE_326 rfl rfl (Nat.le_of_ble_eq_true rfl) ?_
        refine a_dup dX9_takesE_327 (fun h => nomatch h) ?_
        refine b_get (a := 123) (z := ((W.length : Nat) : Int)) (t := 0) dX9_takesE_328 fwX9_259 (by decide) rfl (by decide) rfl rfl ((up2_ne (by omega)).trans rs7.2.1.1) ?_
        refine a_iconst dX9_takesE_331 ⟨by decide, by decide⟩ ?_
        refine a_iadd (z := (((W.length : Nat) : Int) + 1)) dX9_takesE_332 (w_ok (by omega) (by omega)) ?_
        refine b_put (a := 123) (v := vI (((W.length : Nat) : Int) + 1)) dX9_takesE_333 pwX9_259 (fun h => nomatch h) (by decide) rfl (by decide) rfl rfl (fit_int _) ?_
        show Aj γ mX9_takesE d 0 0 Post 336 [(4, vI (sgT B t)), (3, vI 0), (2, vI ((ntc (p ++ W) : Nat) : Int)), (1, vI ((o : Nat) : Int)), (0, vA 123)] [] (mk (up2 (up2 hs7 141 W.length (sgT B t)) 123 30 (((W.length : Nat) : Int) + 1)) τ)
        have r5 := RES_push (x := sgT B t) rs7
        refine a_iconst dX9_takesE_336 ⟨by decide, by decide⟩ ?_
        refine a_istore_n (lv' := [(3, vI 1), (4, vI (sgT B t)), (2, vI ((ntc (p ++ W) : Nat) : Int)), (1, vI ((o : Nat) : Int)), (0, vA 123)]) dX9_takesE_337 rfl (by decide) rfl ?_
        refine a_aload_n (j := 4) dX9_takesE_338 rfl rfl (Nat.le_of_ble_eq_true rfl) ?_
        refine b_callV (d' := d - 1) (mc' := 0) (ms' := 0) (mc1 := 0) (ms1 := 0) (st := []) (b := 123) [] dX9_takesE_339 mwX9_go lkX9_256 (by decide) rfl rc_X9 rfl (Nat.le_of_ble_eq_true rfl) (by omega) rfl rfl (c_goR (by omega) hm hBr hK3 r5 (by omega) (fun hg8 rg8 => ?_))
        show Aj γ mX9_takesE d 0 0 Post 342 [(3, vI 1), (4, vI (sgT B t)), (2, vI ((ntc (p ++ W) : Nat) : Int)), (1, vI ((o : Nat) : Int)), (0, vA 123)] [] (mk hg8 τ)
        refine a_goto (tgt := 28) dX9_takesE_342 (by decide) ?_
        have en : ntc (p ++ W) = ntc (sgT B t :: W) := by rw [ntc_sg hsg.2.1, ntc_app, hoW.2, Nat.zero_add]
        rw [en]
        exact a_lv (lv' := [(3, vI 1), (2, vI ((ntc (sgT B t :: W) : Nat) : Int)), (1, vI ((o : Nat) : Int)), (0, vA 123)]) (by intro q hq; simp only [List.mem_cons, List.not_mem_nil, or_false] at hq ⊢; rcases hq with rfl | rfl | rfl | rfl <;> simp) (g hln (wrW_c hsr (wrW_r hwr)) ((okW_s hsg.2.2 hsg.2.1).mpr hoW.1) ho hg8 rg8)
      · refine a_aload_n (j := 4) dX9_takesE_291 rfl rfl (Nat.le_of_ble_eq_true rfl) ?_
        refine b_getp (a := 123) (p := 142) dX9_takesE_292 fwX9_66 (by decide) rfl (by decide) rfl rfl ?_
        refine a_iload_n (j := 3) dX9_takesE_295 rfl rfl ?_
        refine b_zaload (a := 142) (z := 1) o dX9_takesE_296 (by decide) rfl rfl (by omega) (sp_nil rfl _) ((r.2.2.2.2.1 o (Nat.le_refl _)).trans (by rw [hTo]; rfl)) (fun r296_9 => ?_)
        refine a_if_eq (tgt := 304) dX9_takesE_297 (by decide) (fun c => absurd c (by decide)) (fun _ => ?_)
        refine a_iconst dX9_takesE_300 ⟨by decide, by decide⟩ ?_
        refine a_goto (tgt := 305) dX9_takesE_301 (by decide) ?_
        refine b_zastore (a := 142) (z := 1) o dX9_takesE_305 (by decide) rfl rfl (by omega) (sp_nil rfl _) (by decide) ⟨by decide, by decide⟩ ?_
        have r2 := RES_t (o' := o) (v := 1) (T' := (fun j => if j = o then (decide (rkF (sgT B t) = 3) || (decide (3 < rkF (sgT B t)) && T j)) else T j)) r (Nat.le_succ o) (by show 1 = if (if o = o then (decide (rkF (sgT B t) = 3) || (decide (3 < rkF (sgT B t)) && T o)) else T o) = true then (1 : Int) else 0; rw [if_pos rfl, hTo]; by_cases z1 : rkF (sgT B t) = 3 <;> by_cases z2 : 3 < rkF (sgT B t) <;> simp [z1, z2] <;> omega) (fun j hj => if_neg hj)
        refine a_aload_n (j := 4) dX9_takesE_306 rfl rfl (Nat.le_of_ble_eq_true rfl) ?_
        refine a_iload (j := 0) dX9_takesE_307 rfl ?_
        refine a_callS (d' := d - 1) (mc' := 0) (ms' := 0) (mc1 := 0) (ms1 := 0) (st := [vA 123]) [vI (sgT B t)] dX9_takesE_309 mwX9_rank lkX9_262 rfl (Nat.le_of_ble_eq_true rfl) (by omega) rfl rfl (c_rk ?_)
        show Aj γ mX9_takesE d 0 0 Post 312 [(4, vI (sgT B t)), (3, vI 0), (2, vI ((ntc (p ++ W) : Nat) : Int)), (1, vI ((o : Nat) : Int)), (0, vA 123)] [vI (rkF (sgT B t)), vA 123] (mk (up2 h 142 o 1) τ)
        refine b_callV (d' := d - 1) (mc' := 0) (ms' := 0) (mc1 := 0) (ms1 := 0) (st := []) (b := 123) [vI (rkF (sgT B t))] dX9_takesE_312 mwX9_settle lkX9_274 (by decide) rfl rc_X9 rfl (Nat.le_of_ble_eq_true rfl) (by omega) rfl rfl (c_setR (p := p) (V := W) (by omega) r2 (by omega) hwr hp hW (fun hs10 rs10 => ?_))
        show Aj γ mX9_takesE d 0 0 Post 315 [(4, vI (sgT B t)), (3, vI 0), (2, vI ((ntc (p ++ W) : Nat) : Int)), (1, vI ((o : Nat) : Int)), (0, vA 123)] [] (mk hs10 τ)
        refine a_aload_n (j := 4) dX9_takesE_315 rfl rfl (Nat.le_of_ble_eq_true rfl) ?_
        refine b_getp (a := 123) (p := 141) dX9_takesE_316 fwX9_63 (by decide) rfl (by decide) rfl rfl ?_
        refine a_aload_n (j := 4) dX9_takesE_319 rfl rfl (Nat.le_of_ble_eq_true rfl) ?_
        refine b_get (a := 123) (z := ((W.length : Nat) : Int)) (t := 0) dX9_takesE_320 fwX9_259 (by decide) rfl (by decide) rfl rfl rs10.2.1.1 ?_
        refine a_iload (j := 0) dX9_takesE_323 rfl ?_
        refine b_iastore (a := 141) W.length dX9_takesE_325 (by decide) rfl rfl (by omega) (sp_nil rfl _) ?_
        refine a_aload_n (j := 4) dX9_takesE_326 rfl rfl (Nat.le_of_ble_eq_true rfl) ?_
        refine a_dup dX9_takesE_327 (fun h => nomatch h) ?_
        refine b_get (a := 123) (z := ((W.length : Nat) : Int)) (t := 0) dX9_takesE_328 fwX9_259 (by decide) rfl (by decide) rfl rfl ((up2_ne (by omega)).trans rs10.2.1.1) ?_
        refine a_iconst dX9_takesE_331 ⟨by decide, by decide⟩ ?_
        refine a_iadd (z := (((W.length : Nat) : Int) + 1)) dX9_takesE_332 (w_ok (by omega) (by omega)) ?_
        refine b_put (a := 123) (v := vI (((W.length : Nat) : Int) + 1)) dX9_takesE_333 pwX9_259 (fun h => nomatch h) (by decide) rfl (by decide) rfl rfl (fit_int _) ?_
        show Aj γ mX9_takesE d 0 0 Post 336 [(4, vI (sgT B t)), (3, vI 0), (2, vI ((ntc (p ++ W) : Nat) : Int)), (1, vI ((o : Nat) : Int)), (0, vA 123)] [] (mk (up2 (up2 hs10 141 W.length (sgT B t)) 123 30 (((W.length : Nat) : Int) + 1)) τ)
        have r5 := RES_push (x := sgT B t) rs10
        refine a_iconst dX9_takesE_336 ⟨by decide, by decide⟩ ?_
        refine a_istore_n (lv' := [(3, vI 1), (4, vI (sgT B t)), (2, vI ((ntc (p ++ W) : Nat) : Int)), (1, vI ((o : Nat) : Int)), (0, vA 123)]) dX9_takesE_337 rfl (by decide) rfl ?_
        refine a_aload_n (j := 4) dX9_takesE_338 rfl rfl (Nat.le_of_ble_eq_true rfl) ?_
        refine b_callV (d' := d - 1) (mc' := 0) (ms' := 0) (mc1 := 0) (ms1 := 0) (st := []) (b := 123) [] dX9_takesE_339 mwX9_go lkX9_256 (by decide) rfl rc_X9 rfl (Nat.le_of_ble_eq_true rfl) (by omega) rfl rfl (c_goR (by omega) hm hBr hK3 r5 (by omega) (fun hg11 rg11 => ?_))
        show Aj γ mX9_takesE d 0 0 Post 342 [(3, vI 1), (4, vI (sgT B t)), (2, vI ((ntc (p ++ W) : Nat) : Int)), (1, vI ((o : Nat) : Int)), (0, vA 123)] [] (mk hg11 τ)
        refine a_goto (tgt := 28) dX9_takesE_342 (by decide) ?_
        have en : ntc (p ++ W) = ntc (sgT B t :: W) := by rw [ntc_sg hsg.2.1, ntc_app, hoW.2, Nat.zero_add]
        rw [en]
        exact a_lv (lv' := [(3, vI 1), (2, vI ((ntc (sgT B t :: W) : Nat) : Int)), (1, vI ((o : Nat) : Int)), (0, vA 123)]) (by intro q hq; simp only [List.mem_cons, List.not_mem_nil, or_false] at hq ⊢; rcases hq with rfl | rfl | rfl | rfl <;> simp) (g hln (wrW_c hsr (wrW_r hwr)) ((okW_s hsg.2.2 hsg.2.1).mpr hoW.1) ho hg11 rg11)
    · refine a_aload_n (j := 4) dX9_takesE_257 rfl rfl (Nat.le_of_ble_eq_true rfl) ?_
      refine b_getp (a := 123) (p := 142) dX9_takesE_258 fwX9_66 (by decide) rfl (by decide) rfl rfl ?_
      refine a_iload_n (j := 3) dX9_takesE_261 rfl rfl ?_
      refine b_zaload (a := 142) (z := 1) o dX9_takesE_262 (by decide) rfl rfl (by omega) (sp_nil rfl _) ((r.2.2.2.2.1 o (Nat.le_refl _)).trans (by rw [hTo]; rfl)) (fun r262_12 => ?_)
      refine a_if_eq (tgt := 268) dX9_takesE_263 (by decide) (fun c => absurd c (by decide)) (fun _ => ?_)
      exfalso
      first | omega | exact h1 ⟨by omega, hTo⟩
  · refine a_aload_n (j := 3) dX9_takesE_188 rfl rfl (Nat.le_of_ble_eq_true rfl) ?_
    refine b_get (a := 123) (z := (B t.2.1)) (t := 0) dX9_takesE_189 fwX9_247 (by decide) rfl (by decide) rfl rfl (r.1.2.2.2.2.2.1 (Or.inr (by omega))) ?_
    refine a_bipush dX9_takesE_192 ⟨by decide, by decide, by decide⟩ ?_
    refine a_icmp_ne (tgt := 237) dX9_takesE_194 (by decide) (fun c194_13 => ?_) (fun c194_13 => ?_)
    · refine a_aload_n (j := 3) dX9_takesE_237 rfl rfl (Nat.le_of_ble_eq_true rfl) ?_
      refine b_callV (d' := d - 1) (mc' := 0) (ms' := 0) (mc1 := 0) (ms1 := 0) (st := []) (b := 123) [] dX9_takesE_238 mwX9_signHere lkX9_284 (by decide) rfl rc_X9 rfl (Nat.le_of_ble_eq_true rfl) (by omega) rfl rfl (c_sgR r ?_)
      show Aj γ mX9_takesE d 0 0 Post 241 [(3, vI 0), (2, vI ((ntc (p ++ W) : Nat) : Int)), (1, vI ((o : Nat) : Int)), (0, vA 123)] [vI (sgT B t)] (mk h τ)
      refine a_istore (lv' := [(4, vI (sgT B t)), (3, vI 0), (2, vI ((ntc (p ++ W) : Nat) : Int)), (1, vI ((o : Nat) : Int)), (0, vA 123)]) dX9_takesE_241 (by decide) rfl ?_
      refine a_iload (j := 0) dX9_takesE_243 rfl ?_
      refine a_if_eq (tgt := 266) dX9_takesE_245 (by decide) (fun c245_14 => absurd c245_14 (by omega)) (fun c245_14 => ?_)
      refine a_iload (j := 0) dX9_takesE_248 rfl ?_
      refine a_callS (d' := d - 1) (mc' := 0) (ms' := 0) (mc1 := 0) (ms1 := 0) (st := []) [vI (sgT B t)] dX9_takesE_250 mwX9_rank lkX9_262 rfl (Nat.le_of_ble_eq_true rfl) (by omega) rfl rfl (c_rk ?_)
      show Aj γ mX9_takesE d 0 0 Post 253 [(4, vI (sgT B t)), (3, vI 0), (2, vI ((ntc (p ++ W) : Nat) : Int)), (1, vI ((o : Nat) : Int)), (0, vA 123)] [vI (rkF (sgT B t))] (mk h τ)
      refine a_iconst dX9_takesE_253 ⟨by decide, by decide⟩ ?_
      refine a_icmp_ne (tgt := 268) dX9_takesE_254 (by decide) (fun c254_15 => ?_) (fun c254_15 => ?_)
      · refine a_aload_n (j := 4) dX9_takesE_268 rfl rfl (Nat.le_of_ble_eq_true rfl) ?_
        refine b_getp (a := 123) (p := 142) dX9_takesE_269 fwX9_66 (by decide) rfl (by decide) rfl rfl ?_
        refine a_iload_n (j := 3) dX9_takesE_272 rfl rfl ?_
        refine a_iload (j := 0) dX9_takesE_273 rfl ?_
        refine a_callS (d' := d - 1) (mc' := 0) (ms' := 0) (mc1 := 0) (ms1 := 0) (st := [vI ((o : Nat) : Int), vA 142]) [vI (sgT B t)] dX9_takesE_275 mwX9_rank lkX9_262 rfl (Nat.le_of_ble_eq_true rfl) (by omega) rfl rfl (c_rk ?_)
        show Aj γ mX9_takesE d 0 0 Post 278 [(4, vI (sgT B t)), (3, vI 0), (2, vI ((ntc (p ++ W) : Nat) : Int)), (1, vI ((o : Nat) : Int)), (0, vA 123)] [vI (rkF (sgT B t)), vI ((o : Nat) : Int), vA 142] (mk h τ)
        refine a_iconst dX9_takesE_278 ⟨by decide, by decide⟩ ?_
        refine a_icmp_eq (tgt := 300) dX9_takesE_279 (by decide) (fun c279_16 => absurd c279_16 (by omega)) (fun c279_16 => ?_)
        refine a_iload (j := 0) dX9_takesE_282 rfl ?_
        refine a_callS (d' := d - 1) (mc' := 0) (ms' := 0) (mc1 := 0) (ms1 := 0) (st := [vI ((o : Nat) : Int), vA 142]) [vI (sgT B t)] dX9_takesE_284 mwX9_rank lkX9_262 rfl (Nat.le_of_ble_eq_true rfl) (by omega) rfl rfl (c_rk ?_)
        show Aj γ mX9_takesE d 0 0 Post 287 [(4, vI (sgT B t)), (3, vI 0), (2, vI ((ntc (p ++ W) : Nat) : Int)), (1, vI ((o : Nat) : Int)), (0, vA 123)] [vI (rkF (sgT B t)), vI ((o : Nat) : Int), vA 142] (mk h τ)
        refine a_iconst dX9_takesE_287 ⟨by decide, by decide⟩ ?_
        refine a_icmp_le (tgt := 304) dX9_takesE_288 (by decide) (fun c288_17 => ?_) (fun c288_17 => ?_)
        · refine a_iconst dX9_takesE_304 ⟨by decide, by decide⟩ ?_
          refine b_zastore (a := 142) (z := 0) o dX9_takesE_305 (by decide) rfl rfl (by omega) (sp_nil rfl _) (by decide) ⟨by decide, by decide⟩ ?_
          have r2 := RES_t (o' := o) (v := 0) (T' := (fun j => if j = o then (decide (rkF (sgT B t) = 3) || (decide (3 < rkF (sgT B t)) && T j)) else T j)) r (Nat.le_succ o) (by show 0 = if (if o = o then (decide (rkF (sgT B t) = 3) || (decide (3 < rkF (sgT B t)) && T o)) else T o) = true then (1 : Int) else 0; rw [if_pos rfl, hTo]; by_cases z1 : rkF (sgT B t) = 3 <;> by_cases z2 : 3 < rkF (sgT B t) <;> simp [z1, z2] <;> omega) (fun j hj => if_neg hj)
          refine a_aload_n (j := 4) dX9_takesE_306 rfl rfl (Nat.le_of_ble_eq_true rfl) ?_
          refine a_iload (j := 0) dX9_takesE_307 rfl ?_
          refine a_callS (d' := d - 1) (mc' := 0) (ms' := 0) (mc1 := 0) (ms1 := 0) (st := [vA 123]) [vI (sgT B t)] dX9_takesE_309 mwX9_rank lkX9_262 rfl (Nat.le_of_ble_eq_true rfl) (by omega) rfl rfl (c_rk ?_)
          show Aj γ mX9_takesE d 0 0 Post 312 [(4, vI (sgT B t)), (3, vI 0), (2, vI ((ntc (p ++ W) : Nat) : Int)), (1, vI ((o : Nat) : Int)), (0, vA 123)] [vI (rkF (sgT B t)), vA 123] (mk (up2 h 142 o 0) τ)
          refine b_callV (d' := d - 1) (mc' := 0) (ms' := 0) (mc1 := 0) (ms1 := 0) (st := []) (b := 123) [vI (rkF (sgT B t))] dX9_takesE_312 mwX9_settle lkX9_274 (by decide) rfl rc_X9 rfl (Nat.le_of_ble_eq_true rfl) (by omega) rfl rfl (c_setR (p := p) (V := W) (by omega) r2 (by omega) hwr hp hW (fun hs18 rs18 => ?_))
          show Aj γ mX9_takesE d 0 0 Post 315 [(4, vI (sgT B t)), (3, vI 0), (2, vI ((ntc (p ++ W) : Nat) : Int)), (1, vI ((o : Nat) : Int)), (0, vA 123)] [] (mk hs18 τ)
          refine a_aload_n (j := 4) dX9_takesE_315 rfl rfl (Nat.le_of_ble_eq_true rfl) ?_
          refine b_getp (a := 123) (p := 141) dX9_takesE_316 fwX9_63 (by decide) rfl (by decide) rfl rfl ?_
          refine a_aload_n (j := 4) dX9_takesE_319 rfl rfl (Nat.le_of_ble_eq_true rfl) ?_
          refine b_get (a := 123) (z := ((W.length : Nat) : Int)) (t := 0) dX9_takesE_320 fwX9_259 (by decide) rfl (by decide) rfl rfl rs18.2.1.1 ?_
          refine a_iload (j := 0) dX9_takesE_323 rfl ?_
          refine b_iastore (a := 141) W.length dX9_takesE_325 (by decide) rfl rfl (by omega) (sp_nil rfl _) ?_
          refine a_aload_n (j := 4) dX9_takesE_326 rfl rfl (Nat.le_of_ble_eq_true rfl) ?_
          refine a_dup dX9_takesE_327 (fun h => nomatch h) ?_
          refine b_get (a := 123) (z := ((W.length : Nat) : Int)) (t := 0) dX9_takesE_328 fwX9_259 (by decide) rfl (by decide) rfl rfl ((up2_ne (by omega)).trans rs18.2.1.1) ?_
          refine a_iconst dX9_takesE_331 ⟨by decide, by decide⟩ ?_
          refine a_iadd (z := (((W.length : Nat) : Int) + 1)) dX9_takesE_332 (w_ok (by omega) (by omega)) ?_
          refine b_put (a := 123) (v := vI (((W.length : Nat) : Int) + 1)) dX9_takesE_333 pwX9_259 (fun h => nomatch h) (by decide) rfl (by decide) rfl rfl (fit_int _) ?_
          show Aj γ mX9_takesE d 0 0 Post 336 [(4, vI (sgT B t)), (3, vI 0), (2, vI ((ntc (p ++ W) : Nat) : Int)), (1, vI ((o : Nat) : Int)), (0, vA 123)] [] (mk (up2 (up2 hs18 141 W.length (sgT B t)) 123 30 (((W.length : Nat) : Int) + 1)) τ)
          have r5 := RES_push (x := sgT B t) rs18
          refine a_iconst dX9_takesE_336 ⟨by decide, by decide⟩ ?_
          refine a_istore_n (lv' := [(3, vI 1), (4, vI (sgT B t)), (2, vI ((ntc (p ++ W) : Nat) : Int)), (1, vI ((o : Nat) : Int)), (0, vA 123)]) dX9_takesE_337 rfl (by decide) rfl ?_
          refine a_aload_n (j := 4) dX9_takesE_338 rfl rfl (Nat.le_of_ble_eq_true rfl) ?_
          refine b_callV (d' := d - 1) (mc' := 0) (ms' := 0) (mc1 := 0) (ms1 := 0) (st := []) (b := 123) [] dX9_takesE_339 mwX9_go lkX9_256 (by decide) rfl rc_X9 rfl (Nat.le_of_ble_eq_true rfl) (by omega) rfl rfl (c_goR (by omega) hm hBr hK3 r5 (by omega) (fun hg19 rg19 => ?_))
          show Aj γ mX9_takesE d 0 0 Post 342 [(3, vI 1), (4, vI (sgT B t)), (2, vI ((ntc (p ++ W) : Nat) : Int)), (1, vI ((o : Nat) : Int)), (0, vA 123)] [] (mk hg19 τ)
          refine a_goto (tgt := 28) dX9_takesE_342 (by decide) ?_
          have en : ntc (p ++ W) = ntc (sgT B t :: W) := by rw [ntc_sg hsg.2.1, ntc_app, hoW.2, Nat.zero_add]
          rw [en]
          exact a_lv (lv' := [(3, vI 1), (2, vI ((ntc (sgT B t :: W) : Nat) : Int)), (1, vI ((o : Nat) : Int)), (0, vA 123)]) (by intro q hq; simp only [List.mem_cons, List.not_mem_nil, or_false] at hq ⊢; rcases hq with rfl | rfl | rfl | rfl <;> simp) (g hln (wrW_c hsr (wrW_r hwr)) ((okW_s hsg.2.2 hsg.2.1).mpr hoW.1) ho hg19 rg19)
        · refine a_aload_n (j := 4) dX9_takesE_291 rfl rfl (Nat.le_of_ble_eq_true rfl) ?_
          refine b_getp (a := 123) (p := 142) dX9_takesE_292 fwX9_66 (by decide) rfl (by decide) rfl rfl ?_
          refine a_iload_n (j := 3) dX9_takesE_295 rfl rfl ?_
          refine b_zaload (a := 142) (z := 1) o dX9_takesE_296 (by decide) rfl rfl (by omega) (sp_nil rfl _) ((r.2.2.2.2.1 o (Nat.le_refl _)).trans (by rw [hTo]; rfl)) (fun r296_20 => ?_)
          refine a_if_eq (tgt := 304) dX9_takesE_297 (by decide) (fun c => absurd c (by decide)) (fun _ => ?_)
          refine a_iconst dX9_takesE_300 ⟨by decide, by decide⟩ ?_
          refine a_goto (tgt := 305) dX9_takesE_301 (by decide) ?_
          refine b_zastore (a := 142) (z := 1) o dX9_takesE_305 (by decide) rfl rfl (by omega) (sp_nil rfl _) (by decide) ⟨by decide, by decide⟩ ?_
          have r2 := RES_t (o' := o) (v := 1) (T' := (fun j => if j = o then (decide (rkF (sgT B t) = 3) || (decide (3 < rkF (sgT B t)) && T j)) else T j)) r (Nat.le_succ o) (by show 1 = if (if o = o then (decide (rkF (sgT B t) = 3) || (decide (3 < rkF (sgT B t)) && T o)) else T o) = true then (1 : Int) else 0; rw [if_pos rfl, hTo]; by_cases z1 : rkF (sgT B t) = 3 <;> by_cases z2 : 3 < rkF (sgT B t) <;> simp [z1, z2] <;> omega) (fun j hj => if_neg hj)
          refine a_aload_n (j := 4) dX9_takesE_306 rfl rfl (Nat.le_of_ble_eq_true rfl) ?_
          refine a_iload (j := 0) dX9_takesE_307 rfl ?_
          refine a_callS (d' := d - 1) (mc' := 0) (ms' := 0) (mc1 := 0) (ms1 := 0) (st := [vA 123]) [vI (sgT B t)] dX9_takesE_309 mwX9_rank lkX9_262 rfl (Nat.le_of_ble_eq_true rfl) (by omega) rfl rfl (c_rk ?_)
          show Aj γ mX9_takesE d 0 0 Post 312 [(4, vI (sgT B t)), (3, vI 0), (2, vI ((ntc (p ++ W) : Nat) : Int)), (1, vI ((o : Nat) : Int)), (0, vA 123)] [vI (rkF (sgT B t)), vA 123] (mk (up2 h 142 o 1) τ)
          refine b_callV (d' := d - 1) (mc' := 0) (ms' := 0) (mc1 := 0) (ms1 := 0) (st := []) (b := 123) [vI (rkF (sgT B t))] dX9_takesE_312 mwX9_settle lkX9_274 (by decide) rfl rc_X9 rfl (Nat.le_of_ble_eq_true rfl) (by omega) rfl rfl (c_setR (p := p) (V := W) (by omega) r2 (by omega) hwr hp hW (fun hs21 rs21 => ?_))
          show Aj γ mX9_takesE d 0 0 Post 315 [(4, vI (sgT B t)), (3, vI 0), (2, vI ((ntc (p ++ W) : Nat) : Int)), (1, vI ((o : Nat) : Int)), (0, vA 123)] [] (mk hs21 τ)
          refine a_aload_n (j := 4) dX9_takesE_315 rfl rfl (Nat.le_of_ble_eq_true rfl) ?_
          refine b_getp (a := 123) (p := 141) dX9_takesE_316 fwX9_63 (by decide) rfl (by decide) rfl rfl ?_
          refine a_aload_n (j := 4) dX9_takesE_319 rfl rfl (Nat.le_of_ble_eq_true rfl) ?_
          refine b_get (a := 123) (z := ((W.length : Nat) : Int)) (t := 0) dX9_takesE_320 fwX9_259 (by decide) rfl (by decide) rfl rfl rs21.2.1.1 ?_
          refine a_iload (j := 0) dX9_takesE_323 rfl ?_
          refine b_iastore (a := 141) W.length dX9_takesE_325 (by decide) rfl rfl (by omega) (sp_nil rfl _) ?_
          refine a_aload_n (j := 4) dX9_takesE_326 rfl rfl (Nat.le_of_ble_eq_true rfl) ?_
          refine a_dup dX9_takesE_327 (fun h => nomatch h) ?_
          refine b_get (a := 123) (z := ((W.length : Nat) : Int)) (t := 0) dX9_takesE_328 fwX9_259 (by decide) rfl (by decide) rfl rfl ((up2_ne (by omega)).trans rs21.2.1.1) ?_
          refine a_iconst dX9_takesE_331 ⟨by decide, by decide⟩ ?_
          refine a_iadd (z := (((W.length : Nat) : Int) + 1)) dX9_takesE_332 (w_ok (by omega) (by omega)) ?_
          refine b_put (a := 123) (v := vI (((W.length : Nat) : Int) + 1)) dX9_takesE_333 pwX9_259 (fun h => nomatch h) (by decide) rfl (by decide) rfl rfl (fit_int _) ?_
          show Aj γ mX9_takesE d 0 0 Post 336 [(4, vI (sgT B t)), (3, vI 0), (2, vI ((ntc (p ++ W) : Nat) : Int)), (1, vI ((o : Nat) : Int)), (0, vA 123)] [] (mk (up2 (up2 hs21 141 W.length (sgT B t)) 123 30 (((W.length : Nat) : Int) + 1)) τ)
          have r5 := RES_push (x := sgT B t) rs21
          refine a_iconst dX9_takesE_336 ⟨by decide, by decide⟩ ?_
          refine a_istore_n (lv' := [(3, vI 1), (4, vI (sgT B t)), (2, vI ((ntc (p ++ W) : Nat) : Int)), (1, vI ((o : Nat) : Int)), (0, vA 123)]) dX9_takesE_337 rfl (by decide) rfl ?_
          refine a_aload_n (j := 4) dX9_takesE_338 rfl rfl (Nat.le_of_ble_eq_true rfl) ?_
          refine b_callV (d' := d - 1) (mc' := 0) (ms' := 0) (mc1 := 0) (ms1 := 0) (st := []) (b := 123) [] dX9_takesE_339 mwX9_go lkX9_256 (by decide) rfl rc_X9 rfl (Nat.le_of_ble_eq_true rfl) (by omega) rfl rfl (c_goR (by omega) hm hBr hK3 r5 (by omega) (fun hg22 rg22 => ?_))
          show Aj γ mX9_takesE d 0 0 Post 342 [(3, vI 1), (4, vI (sgT B t)), (2, vI ((ntc (p ++ W) : Nat) : Int)), (1, vI ((o : Nat) : Int)), (0, vA 123)] [] (mk hg22 τ)
          refine a_goto (tgt := 28) dX9_takesE_342 (by decide) ?_
          have en : ntc (p ++ W) = ntc (sgT B t :: W) := by rw [ntc_sg hsg.2.1, ntc_app, hoW.2, Nat.zero_add]
          rw [en]
          exact a_lv (lv' := [(3, vI 1), (2, vI ((ntc (sgT B t :: W) : Nat) : Int)), (1, vI ((o : Nat) : Int)), (0, vA 123)]) (by intro q hq; simp only [List.mem_cons, List.not_mem_nil, or_false] at hq ⊢; rcases hq with rfl | rfl | rfl | rfl <;> simp) (g hln (wrW_c hsr (wrW_r hwr)) ((okW_s hsg.2.2 hsg.2.1).mpr hoW.1) ho hg22 rg22)
      · refine a_aload_n (j := 4) dX9_takesE_257 rfl rfl (Nat.le_of_ble_eq_true rfl) ?_
        refine b_getp (a := 123) (p := 142) dX9_takesE_258 fwX9_66 (by decide) rfl (by decide) rfl rfl ?_
        refine a_iload_n (j := 3) dX9_takesE_261 rfl rfl ?_
        refine b_zaload (a := 142) (z := 1) o dX9_takesE_262 (by decide) rfl rfl (by omega) (sp_nil rfl _) ((r.2.2.2.2.1 o (Nat.le_refl _)).trans (by rw [hTo]; rfl)) (fun r262_23 => ?_)
        refine a_if_eq (tgt := 268) dX9_takesE_263 (by decide) (fun c => absurd c (by decide)) (fun _ => ?_)
        exfalso
        first | omega | exact h1 ⟨by omega, hTo⟩
    · refine a_iload_n (j := 2) dX9_takesE_197 rfl rfl ?_
      refine a_if_le (tgt := 237) dX9_takesE_198 (by decide) (fun c198_24 => ?_) (fun c198_24 => ?_)
      · refine a_aload_n (j := 3) dX9_takesE_237 rfl rfl (Nat.le_of_ble_eq_true rfl) ?_
        refine b_callV (d' := d - 1) (mc' := 0) (ms' := 0) (mc1 := 0) (ms1 := 0) (st := []) (b := 123) [] dX9_takesE_238 mwX9_signHere lkX9_284 (by decide) rfl rc_X9 rfl (Nat.le_of_ble_eq_true rfl) (by omega) rfl rfl (c_sgR r ?_)
        show Aj γ mX9_takesE d 0 0 Post 241 [(3, vI 0), (2, vI ((ntc (p ++ W) : Nat) : Int)), (1, vI ((o : Nat) : Int)), (0, vA 123)] [vI (sgT B t)] (mk h τ)
        refine a_istore (lv' := [(4, vI (sgT B t)), (3, vI 0), (2, vI ((ntc (p ++ W) : Nat) : Int)), (1, vI ((o : Nat) : Int)), (0, vA 123)]) dX9_takesE_241 (by decide) rfl ?_
        refine a_iload (j := 0) dX9_takesE_243 rfl ?_
        refine a_if_eq (tgt := 266) dX9_takesE_245 (by decide) (fun c245_25 => absurd c245_25 (by omega)) (fun c245_25 => ?_)
        refine a_iload (j := 0) dX9_takesE_248 rfl ?_
        refine a_callS (d' := d - 1) (mc' := 0) (ms' := 0) (mc1 := 0) (ms1 := 0) (st := []) [vI (sgT B t)] dX9_takesE_250 mwX9_rank lkX9_262 rfl (Nat.le_of_ble_eq_true rfl) (by omega) rfl rfl (c_rk ?_)
        show Aj γ mX9_takesE d 0 0 Post 253 [(4, vI (sgT B t)), (3, vI 0), (2, vI ((ntc (p ++ W) : Nat) : Int)), (1, vI ((o : Nat) : Int)), (0, vA 123)] [vI (rkF (sgT B t))] (mk h τ)
        refine a_iconst dX9_takesE_253 ⟨by decide, by decide⟩ ?_
        refine a_icmp_ne (tgt := 268) dX9_takesE_254 (by decide) (fun c254_26 => ?_) (fun c254_26 => ?_)
        · refine a_aload_n (j := 4) dX9_takesE_268 rfl rfl (Nat.le_of_ble_eq_true rfl) ?_
          refine b_getp (a := 123) (p := 142) dX9_takesE_269 fwX9_66 (by decide) rfl (by decide) rfl rfl ?_
          refine a_iload_n (j := 3) dX9_takesE_272 rfl rfl ?_
          refine a_iload (j := 0) dX9_takesE_273 rfl ?_
          refine a_callS (d' := d - 1) (mc' := 0) (ms' := 0) (mc1 := 0) (ms1 := 0) (st := [vI ((o : Nat) : Int), vA 142]) [vI (sgT B t)] dX9_takesE_275 mwX9_rank lkX9_262 rfl (Nat.le_of_ble_eq_true rfl) (by omega) rfl rfl (c_rk ?_)
          show Aj γ mX9_takesE d 0 0 Post 278 [(4, vI (sgT B t)), (3, vI 0), (2, vI ((ntc (p ++ W) : Nat) : Int)), (1, vI ((o : Nat) : Int)), (0, vA 123)] [vI (rkF (sgT B t)), vI ((o : Nat) : Int), vA 142] (mk h τ)
          refine a_iconst dX9_takesE_278 ⟨by decide, by decide⟩ ?_
          refine a_icmp_eq (tgt := 300) dX9_takesE_279 (by decide) (fun c279_27 => absurd c279_27 (by omega)) (fun c279_27 => ?_)
          refine a_iload (j := 0) dX9_takesE_282 rfl ?_
          refine a_callS (d' := d - 1) (mc' := 0) (ms' := 0) (mc1 := 0) (ms1 := 0) (st := [vI ((o : Nat) : Int), vA 142]) [vI (sgT B t)] dX9_takesE_284 mwX9_rank lkX9_262 rfl (Nat.le_of_ble_eq_true rfl) (by omega) rfl rfl (c_rk ?_)
          show Aj γ mX9_takesE d 0 0 Post 287 [(4, vI (sgT B t)), (3, vI 0), (2, vI ((ntc (p ++ W) : Nat) : Int)), (1, vI ((o : Nat) : Int)), (0, vA 123)] [vI (rkF (sgT B t)), vI ((o : Nat) : Int), vA 142] (mk h τ)
          refine a_iconst dX9_takesE_287 ⟨by decide, by decide⟩ ?_
          refine a_icmp_le (tgt := 304) dX9_takesE_288 (by decide) (fun c288_28 => ?_) (fun c288_28 => ?_)
          · refine a_iconst dX9_takesE_304 ⟨by decide, by decide⟩ ?_
            refine b_zastore (a := 142) (z := 0) o dX9_takesE_305 (by decide) rfl rfl (by omega) (sp_nil rfl _) (by decide) ⟨by decide, by decide⟩ ?_
            have r2 := RES_t (o' := o) (v := 0) (T' := (fun j => if j = o then (decide (rkF (sgT B t) = 3) || (decide (3 < rkF (sgT B t)) && T j)) else T j)) r (Nat.le_succ o) (by show 0 = if (if o = o then (decide (rkF (sgT B t) = 3) || (decide (3 < rkF (sgT B t)) && T o)) else T o) = true then (1 : Int) else 0; rw [if_pos rfl, hTo]; by_cases z1 : rkF (sgT B t) = 3 <;> by_cases z2 : 3 < rkF (sgT B t) <;> simp [z1, z2] <;> omega) (fun j hj => if_neg hj)
            refine a_aload_n (j := 4) dX9_takesE_306 rfl rfl (Nat.le_of_ble_eq_true rfl) ?_
            refine a_iload (j := 0) dX9_takesE_307 rfl ?_
            refine a_callS (d' := d - 1) (mc' := 0) (ms' := 0) (mc1 := 0) (ms1 := 0) (st := [vA 123]) [vI (sgT B t)] dX9_takesE_309 mwX9_rank lkX9_262 rfl (Nat.le_of_ble_eq_true rfl) (by omega) rfl rfl (c_rk ?_)
            show Aj γ mX9_takesE d 0 0 Post 312 [(4, vI (sgT B t)), (3, vI 0), (2, vI ((ntc (p ++ W) : Nat) : Int)), (1, vI ((o : Nat) : Int)), (0, vA 123)] [vI (rkF (sgT B t)), vA 123] (mk (up2 h 142 o 0) τ)
            refine b_callV (d' := d - 1) (mc' := 0) (ms' := 0) (mc1 := 0) (ms1 := 0) (st := []) (b := 123) [vI (rkF (sgT B t))] dX9_takesE_312 mwX9_settle lkX9_274 (by decide) rfl rc_X9 rfl (Nat.le_of_ble_eq_true rfl) (by omega) rfl rfl (c_setR (p := p) (V := W) (by omega) r2 (by omega) hwr hp hW (fun hs29 rs29 => ?_))
            show Aj γ mX9_takesE d 0 0 Post 315 [(4, vI (sgT B t)), (3, vI 0), (2, vI ((ntc (p ++ W) : Nat) : Int)), (1, vI ((o : Nat) : Int)), (0, vA 123)] [] (mk hs29 τ)
            refine a_aload_n (j := 4) dX9_takesE_315 rfl rfl (Nat.le_of_ble_eq_true rfl) ?_
            refine b_getp (a := 123) (p := 141) dX9_takesE_316 fwX9_63 (by decide) rfl (by decide) rfl rfl ?_
            refine a_aload_n (j := 4) dX9_takesE_319 rfl rfl (Nat.le_of_ble_eq_true rfl) ?_
            refine b_get (a := 123) (z := ((W.length : Nat) : Int)) (t := 0) dX9_takesE_320 fwX9_259 (by decide) rfl (by decide) rfl rfl rs29.2.1.1 ?_
            refine a_iload (j := 0) dX9_takesE_323 rfl ?_
            refine b_iastore (a := 141) W.length dX9_takesE_325 (by decide) rfl rfl (by omega) (sp_nil rfl _) ?_
            refine a_aload_n (j := 4) dX9_takesE_326 rfl rfl (Nat.le_of_ble_eq_true rfl) ?_
            refine a_dup dX9_takesE_327 (fun h => nomatch h) ?_
            refine b_get (a := 123) (z := ((W.length : Nat) : Int)) (t := 0) dX9_takesE_328 fwX9_259 (by decide) rfl (by decide) rfl rfl ((up2_ne (by omega)).trans rs29.2.1.1) ?_
            refine a_iconst dX9_takesE_331 ⟨by decide, by decide⟩ ?_
            refine a_iadd (z := (((W.length : Nat) : Int) + 1)) dX9_takesE_332 (w_ok (by omega) (by omega)) ?_
            refine b_put (a := 123) (v := vI (((W.length : Nat) : Int) + 1)) dX9_takesE_333 pwX9_259 (fun h => nomatch h) (by decide) rfl (by decide) rfl rfl (fit_int _) ?_
            show Aj γ mX9_takesE d 0 0 Post 336 [(4, vI (sgT B t)), (3, vI 0), (2, vI ((ntc (p ++ W) : Nat) : Int)), (1, vI ((o : Nat) : Int)), (0, vA 123)] [] (mk (up2 (up2 hs29 141 W.length (sgT B t)) 123 30 (((W.length : Nat) : Int) + 1)) τ)
            have r5 := RES_push (x := sgT B t) rs29
            refine a_iconst dX9_takesE_336 ⟨by decide, by decide⟩ ?_
            refine a_istore_n (lv' := [(3, vI 1), (4, vI (sgT B t)), (2, vI ((ntc (p ++ W) : Nat) : Int)), (1, vI ((o : Nat) : Int)), (0, vA 123)]) dX9_takesE_337 rfl (by decide) rfl ?_
            refine a_aload_n (j := 4) dX9_takesE_338 rfl rfl (Nat.le_of_ble_eq_true rfl) ?_
            refine b_callV (d' := d - 1) (mc' := 0) (ms' := 0) (mc1 := 0) (ms1 := 0) (st := []) (b := 123) [] dX9_takesE_339 mwX9_go lkX9_256 (by decide) rfl rc_X9 rfl (Nat.le_of_ble_eq_true rfl) (by omega) rfl rfl (c_goR (by omega) hm hBr hK3 r5 (by omega) (fun hg30 rg30 => ?_))
            show Aj γ mX9_takesE d 0 0 Post 342 [(3, vI 1), (4, vI (sgT B t)), (2, vI ((ntc (p ++ W) : Nat) : Int)), (1, vI ((o : Nat) : Int)), (0, vA 123)] [] (mk hg30 τ)
            refine a_goto (tgt := 28) dX9_takesE_342 (by decide) ?_
            have en : ntc (p ++ W) = ntc (sgT B t :: W) := by rw [ntc_sg hsg.2.1, ntc_app, hoW.2, Nat.zero_add]
            rw [en]
            exact a_lv (lv' := [(3, vI 1), (2, vI ((ntc (sgT B t :: W) : Nat) : Int)), (1, vI ((o : Nat) : Int)), (0, vA 123)]) (by intro q hq; simp only [List.mem_cons, List.not_mem_nil, or_false] at hq ⊢; rcases hq with rfl | rfl | rfl | rfl <;> simp) (g hln (wrW_c hsr (wrW_r hwr)) ((okW_s hsg.2.2 hsg.2.1).mpr hoW.1) ho hg30 rg30)
          · refine a_aload_n (j := 4) dX9_takesE_291 rfl rfl (Nat.le_of_ble_eq_true rfl) ?_
            refine b_getp (a := 123) (p := 142) dX9_takesE_292 fwX9_66 (by decide) rfl (by decide) rfl rfl ?_
            refine a_iload_n (j := 3) dX9_takesE_295 rfl rfl ?_
            refine b_zaload (a := 142) (z := 1) o dX9_takesE_296 (by decide) rfl rfl (by omega) (sp_nil rfl _) ((r.2.2.2.2.1 o (Nat.le_refl _)).trans (by rw [hTo]; rfl)) (fun r296_31 => ?_)
            refine a_if_eq (tgt := 304) dX9_takesE_297 (by decide) (fun c => absurd c (by decide)) (fun _ => ?_)
            refine a_iconst dX9_takesE_300 ⟨by decide, by decide⟩ ?_
            refine a_goto (tgt := 305) dX9_takesE_301 (by decide) ?_
            refine b_zastore (a := 142) (z := 1) o dX9_takesE_305 (by decide) rfl rfl (by omega) (sp_nil rfl _) (by decide) ⟨by decide, by decide⟩ ?_
            have r2 := RES_t (o' := o) (v := 1) (T' := (fun j => if j = o then (decide (rkF (sgT B t) = 3) || (decide (3 < rkF (sgT B t)) && T j)) else T j)) r (Nat.le_succ o) (by show 1 = if (if o = o then (decide (rkF (sgT B t) = 3) || (decide (3 < rkF (sgT B t)) && T o)) else T o) = true then (1 : Int) else 0; rw [if_pos rfl, hTo]; by_cases z1 : rkF (sgT B t) = 3 <;> by_cases z2 : 3 < rkF (sgT B t) <;> simp [z1, z2] <;> omega) (fun j hj => if_neg hj)
            refine a_aload_n (j := 4) dX9_takesE_306 rfl rfl (Nat.le_of_ble_eq_true rfl) ?_
            refine a_iload (j := 0) dX9_takesE_307 rfl ?_
            refine a_callS (d' := d - 1) (mc' := 0) (ms' := 0) (mc1 := 0) (ms1 := 0) (st := [vA 123]) [vI (sgT B t)] dX9_takesE_309 mwX9_rank lkX9_262 rfl (Nat.le_of_ble_eq_true rfl) (by omega) rfl rfl (c_rk ?_)
            show Aj γ mX9_takesE d 0 0 Post 312 [(4, vI (sgT B t)), (3, vI 0), (2, vI ((ntc (p ++ W) : Nat) : Int)), (1, vI ((o : Nat) : Int)), (0, vA 123)] [vI (rkF (sgT B t)), vA 123] (mk (up2 h 142 o 1) τ)
            refine b_callV (d' := d - 1) (mc' := 0) (ms' := 0) (mc1 := 0) (ms1 := 0) (st := []) (b := 123) [vI (rkF (sgT B t))] dX9_takesE_312 mwX9_settle lkX9_274 (by decide) rfl rc_X9 rfl (Nat.le_of_ble_eq_true rfl) (by omega) rfl rfl (c_setR (p := p) (V := W) (by omega) r2 (by omega) hwr hp hW (fun hs32 rs32 => ?_))
            show Aj γ mX9_takesE d 0 0 Post 315 [(4, vI (sgT B t)), (3, vI 0), (2, vI ((ntc (p ++ W) : Nat) : Int)), (1, vI ((o : Nat) : Int)), (0, vA 123)] [] (mk hs32 τ)
            refine a_aload_n (j := 4) dX9_takesE_315 rfl rfl (Nat.le_of_ble_eq_true rfl) ?_
            refine b_getp (a := 123) (p := 141) dX9_takesE_316 fwX9_63 (by decide) rfl (by decide) rfl rfl ?_
            refine a_aload_n (j := 4) dX9_takesE_319 rfl rfl (Nat.le_of_ble_eq_true rfl) ?_
            refine b_get (a := 123) (z := ((W.length : Nat) : Int)) (t := 0) dX9_takesE_320 fwX9_259 (by decide) rfl (by decide) rfl rfl rs32.2.1.1 ?_
            refine a_iload (j := 0) dX9_takesE_323 rfl ?_
            refine b_iastore (a := 141) W.length dX9_takesE_325 (by decide) rfl rfl (by omega) (sp_nil rfl _) ?_
            refine a_aload_n (j := 4) dX9_takesE_326 rfl rfl (Nat.le_of_ble_eq_true rfl) ?_
            refine a_dup dX9_takesE_327 (fun h => nomatch h) ?_
            refine b_get (a := 123) (z := ((W.length : Nat) : Int)) (t := 0) dX9_takesE_328 fwX9_259 (by decide) rfl (by decide) rfl rfl ((up2_ne (by omega)).trans rs32.2.1.1) ?_
            refine a_iconst dX9_takesE_331 ⟨by decide, by decide⟩ ?_
            refine a_iadd (z := (((W.length : Nat) : Int) + 1)) dX9_takesE_332 (w_ok (by omega) (by omega)) ?_
            refine b_put (a := 123) (v := vI (((W.length : Nat) : Int) + 1)) dX9_takesE_333 pwX9_259 (fun h => nomatch h) (by decide) rfl (by decide) rfl rfl (fit_int _) ?_
            show Aj γ mX9_takesE d 0 0 Post 336 [(4, vI (sgT B t)), (3, vI 0), (2, vI ((ntc (p ++ W) : Nat) : Int)), (1, vI ((o : Nat) : Int)), (0, vA 123)] [] (mk (up2 (up2 hs32 141 W.length (sgT B t)) 123 30 (((W.length : Nat) : Int) + 1)) τ)
            have r5 := RES_push (x := sgT B t) rs32
            refine a_iconst dX9_takesE_336 ⟨by decide, by decide⟩ ?_
            refine a_istore_n (lv' := [(3, vI 1), (4, vI (sgT B t)), (2, vI ((ntc (p ++ W) : Nat) : Int)), (1, vI ((o : Nat) : Int)), (0, vA 123)]) dX9_takesE_337 rfl (by decide) rfl ?_
            refine a_aload_n (j := 4) dX9_takesE_338 rfl rfl (Nat.le_of_ble_eq_true rfl) ?_
            refine b_callV (d' := d - 1) (mc' := 0) (ms' := 0) (mc1 := 0) (ms1 := 0) (st := []) (b := 123) [] dX9_takesE_339 mwX9_go lkX9_256 (by decide) rfl rc_X9 rfl (Nat.le_of_ble_eq_true rfl) (by omega) rfl rfl (c_goR (by omega) hm hBr hK3 r5 (by omega) (fun hg33 rg33 => ?_))
            show Aj γ mX9_takesE d 0 0 Post 342 [(3, vI 1), (4, vI (sgT B t)), (2, vI ((ntc (p ++ W) : Nat) : Int)), (1, vI ((o : Nat) : Int)), (0, vA 123)] [] (mk hg33 τ)
            refine a_goto (tgt := 28) dX9_takesE_342 (by decide) ?_
            have en : ntc (p ++ W) = ntc (sgT B t :: W) := by rw [ntc_sg hsg.2.1, ntc_app, hoW.2, Nat.zero_add]
            rw [en]
            exact a_lv (lv' := [(3, vI 1), (2, vI ((ntc (sgT B t :: W) : Nat) : Int)), (1, vI ((o : Nat) : Int)), (0, vA 123)]) (by intro q hq; simp only [List.mem_cons, List.not_mem_nil, or_false] at hq ⊢; rcases hq with rfl | rfl | rfl | rfl <;> simp) (g hln (wrW_c hsr (wrW_r hwr)) ((okW_s hsg.2.2 hsg.2.1).mpr hoW.1) ho hg33 rg33)
        · refine a_aload_n (j := 4) dX9_takesE_257 rfl rfl (Nat.le_of_ble_eq_true rfl) ?_
          refine b_getp (a := 123) (p := 142) dX9_takesE_258 fwX9_66 (by decide) rfl (by decide) rfl rfl ?_
          refine a_iload_n (j := 3) dX9_takesE_261 rfl rfl ?_
          refine b_zaload (a := 142) (z := 1) o dX9_takesE_262 (by decide) rfl rfl (by omega) (sp_nil rfl _) ((r.2.2.2.2.1 o (Nat.le_refl _)).trans (by rw [hTo]; rfl)) (fun r262_34 => ?_)
          refine a_if_eq (tgt := 268) dX9_takesE_263 (by decide) (fun c => absurd c (by decide)) (fun _ => ?_)
          exfalso
          first | omega | exact h1 ⟨by omega, hTo⟩
      · exfalso
        omega
set_option maxHeartbeats 8000000 in
theorem sy_sign0 {γ : GT} {d : Nat} {B : Nat → Int} {n K : Nat} {h0 : Nat → Nat → Int} {τ : List AC} {Post : Option AV → List AC → Prop} (hd : 5 ≤ d) (hm : n ≤ 96) (hBr : ∀ k, 0 ≤ B k ∧ B k ≤ 255) (hK3 : K < 3) {t : Tk} {p W C : List Int} {o : Nat} {T : Nat → Bool} (hTo : T o = false) (h0' : ¬ sgT B t = 0) (h1 : ¬ (rkF (sgT B t) = 3 ∧ T o = true)) (hp : ∀ x : Int, x ∈ p → ¬ x = -11 ∧ rkF (sgT B t) ≤ rkF x) (hW : ∀ (x : Int) (r : List Int), W = x :: r → x = -11 ∨ rkF x < rkF (sgT B t)) (g : GLp γ d Post τ B n K h0 (nxt B n t) (sgT B t :: W) (C ++ p) o true (fun j => if j = o then (decide (rkF (sgT B t) = 3) || (decide (3 < rkF (sgT B t)) && T j)) else T j)) : GLp γ d Post τ B n K h0 t (p ++ W) C o false T := by
  intro hbd hwr hok ho h r
  have hV := r.1.2.2.2.2.2.2.2.2.2
  have hv1 := hV.1
  have hv2 := hV.2.1
  have hv3 := hV.2.2.2.1
  have hr3 := rtk_3 t
  have hr0 := rtk_0 t
  have hnl := ntc_le (W := (p ++ W))
  have hnx := nxt_V (B := B) (n := n) (t := t) hv2
  have hk3 := sg_k h0'
  have hv4 := hv3 (by omega)
  have hsg := rk_sg h0'
  have hsr := sgT_rng h0'
  replace hsr : -11 ≤ sgT B t ∧ sgT B t ≤ -1 := ⟨by omega, by omega⟩
  have hb41 : ¬ B t.2.1 = 41 := fun q => by
    apply h0'
    unfold sgT
    rw [if_pos hk3, q]
    rfl
  have hlp := List.length_append (as := p) (bs := W)
  have hcp := List.length_append (as := C) (bs := p)
  have hoW := okW_p (fun x hx => (hp x hx).1) hok
  have hln : (sgT B t :: W).length + (C ++ p).length ≤ (nxt B n t).2.1 := by rw [List.length_cons]; omega
  show Aj γ mX9_takesE d 0 0 Post 28 [(3, vI 0), (2, vI ((ntc (p ++ W) : Nat) : Int)), (1, vI ((o : Nat) : Int)), (0, vA 123)] [] (mk h τ)
  refine a_iload_n (j := 0) dX9_takesE_28 rfl rfl ?_
  refine a_if_ne (tgt := 39) dX9_takesE_29 (by decide) (fun c => absurd c (by decide)) (fun _ => ?_)
  refine a_aload_n (j := 3) dX9_takesE_32 rfl rfl (Nat.le_of_ble_eq_true rfl) ?_
  refine b_get (a := 123) (z := (rtk t)) (t := 0) dX9_takesE_33 fwX9_241 (by decide) rfl (by decide) rfl rfl r.1.2.2.2.2.1 ?_
  refine a_if_eq (tgt := 345) dX9_takesE_36 (by decide) (fun c36_1 => absurd c36_1 (by omega)) (fun c36_1 => ?_)
  refine a_iload_n (j := 0) dX9_takesE_39 rfl rfl ?_
  refine a_if_eq (tgt := 180) dX9_takesE_40 (by decide) (fun _ => ?_) (fun c => absurd c (by decide))
  refine a_aload_n (j := 3) dX9_takesE_180 rfl rfl (Nat.le_of_ble_eq_true rfl) ?_
  refine b_get (a := 123) (z := (rtk t)) (t := 0) dX9_takesE_181 fwX9_241 (by decide) rfl (by decide) rfl rfl r.1.2.2.2.2.1 ?_
  refine a_iconst dX9_takesE_184 ⟨by decide, by decide⟩ ?_
  refine a_icmp_ne (tgt := 237) dX9_takesE_185 (by decide) (fun c185_2 => ?_) (fun c185_2 => ?_)
  · refine a_aload_n (j := 3) dX9_takesE_237 rfl rfl (Nat.le_of_ble_eq_true rfl) ?_
    refine b_callV (d' := d - 1) (mc' := 0) (ms' := 0) (mc1 := 0) (ms1 := 0) (st := []) (b := 123) [] dX9_takesE_238 mwX9_signHere lkX9_284 (by decide) rfl rc_X9 rfl (Nat.le_of_ble_eq_true rfl) (by omega) rfl rfl (c_sgR r ?_)
    show Aj γ mX9_takesE d 0 0 Post 241 [(3, vI 0), (2, vI ((ntc (p ++ W) : Nat) : Int)), (1, vI ((o : Nat) : Int)), (0, vA 123)] [vI (sgT B t)] (mk h τ)
    refine a_istore (lv' := [(4, vI (sgT B t)), (3, vI 0), (2, vI ((ntc (p ++ W) : Nat) : Int)), (1, vI ((o : Nat) : Int)), (0, vA 123)]) dX9_takesE_241 (by decide) rfl ?_
    refine a_iload (j := 0) dX9_takesE_243 rfl ?_
    refine a_if_eq (tgt := 266) dX9_takesE_245 (by decide) (fun c245_3 => absurd c245_3 (by omega)) (fun c245_3 => ?_)
    refine a_iload (j := 0) dX9_takesE_248 rfl ?_
    refine a_callS (d' := d - 1) (mc' := 0) (ms' := 0) (mc1 := 0) (ms1 := 0) (st := []) [vI (sgT B t)] dX9_takesE_250 mwX9_rank lkX9_262 rfl (Nat.le_of_ble_eq_true rfl) (by omega) rfl rfl (c_rk ?_)
    show Aj γ mX9_takesE d 0 0 Post 253 [(4, vI (sgT B t)), (3, vI 0), (2, vI ((ntc (p ++ W) : Nat) : Int)), (1, vI ((o : Nat) : Int)), (0, vA 123)] [vI (rkF (sgT B t))] (mk h τ)
    refine a_iconst dX9_takesE_253 ⟨by decide, by decide⟩ ?_
    refine a_icmp_ne (tgt := 268) dX9_takesE_254 (by decide) (fun c254_4 => ?_) (fun c254_4 => ?_)
    · refine a_aload_n (j := 4) dX9_takesE_268 rfl rfl (Nat.le_of_ble_eq_true rfl) ?_
      refine b_getp (a := 123) (p := 142) dX9_takesE_269 fwX9_66 (by decide) rfl (by decide) rfl rfl ?_
      refine a_iload_n (j := 3) dX9_takesE_272 rfl rfl ?_
      refine a_iload (j := 0) dX9_takesE_273 rfl ?_
      refine a_callS (d' := d - 1) (mc' := 0) (ms' := 0) (mc1 := 0) (ms1 := 0) (st := [vI ((o : Nat) : Int), vA 142]) [vI (sgT B t)] dX9_takesE_275 mwX9_rank lkX9_262 rfl (Nat.le_of_ble_eq_true rfl) (by omega) rfl rfl (c_rk ?_)
      show Aj γ mX9_takesE d 0 0 Post 278 [(4, vI (sgT B t)), (3, vI 0), (2, vI ((ntc (p ++ W) : Nat) : Int)), (1, vI ((o : Nat) : Int)), (0, vA 123)] [vI (rkF (sgT B t)), vI ((o : Nat) : Int), vA 142] (mk h τ)
      refine a_iconst dX9_takesE_278 ⟨by decide, by decide⟩ ?_
      refine a_icmp_eq (tgt := 300) dX9_takesE_279 (by decide) (fun c279_5 => absurd c279_5 (by omega)) (fun c279_5 => ?_)
      refine a_iload (j := 0) dX9_takesE_282 rfl ?_
      refine a_callS (d' := d - 1) (mc' := 0) (ms' := 0) (mc1 := 0) (ms1 := 0) (st := [vI ((o : Nat) : Int), vA 142]) [vI (sgT B t)] dX9_takesE_284 mwX9_rank lkX9_262 rfl (Nat.le_of_ble_eq_true rfl) (by omega) rfl rfl (c_rk ?_)
      show Aj γ mX9_takesE d 0 0 Post 287 [(4, vI (sgT B t)), (3, vI 0), (2, vI ((ntc (p ++ W) : Nat) : Int)), (1, vI ((o : Nat) : Int)), (0, vA 123)] [vI (rkF (sgT B t)), vI ((o : Nat) : Int), vA 142] (mk h τ)
      refine a_iconst dX9_takesE_287 ⟨by decide, by decide⟩ ?_
      refine a_icmp_le (tgt := 304) dX9_takesE_288 (by decide) (fun c288_6 => ?_) (fun c288_6 => ?_)
      · refine a_iconst dX9_takesE_304 ⟨by decide, by decide⟩ ?_
        refine b_zastore (a := 142) (z := 0) o dX9_takesE_305 (by decide) rfl rfl (by omega) (sp_nil rfl _) (by decide) ⟨by decide, by decide⟩ ?_
        have r2 := RES_t (o' := o) (v := 0) (T' := (fun j => if j = o then (decide (rkF (sgT B t) = 3) || (decide (3 < rkF (sgT B t)) && T j)) else T j)) r (Nat.le_succ o) (by show 0 = if (if o = o then (decide (rkF (sgT B t) = 3) || (decide (3 < rkF (sgT B t)) && T o)) else T o) = true then (1 : Int) else 0; rw [if_pos rfl, hTo]; by_cases z1 : rkF (sgT B t) = 3 <;> by_cases z2 : 3 < rkF (sgT B t) <;> simp [z1, z2] <;> omega) (fun j hj => if_neg hj)
        refine a_aload_n (j := 4) dX9_takesE_306 rfl rfl (Nat.le_of_ble_eq_true rfl) ?_
        refine a_iload (j := 0) dX9_takesE_307 rfl ?_
        refine a_callS (d' := d - 1) (mc' := 0) (ms' := 0) (mc1 := 0) (ms1 := 0) (st := [vA 123]) [vI (sgT B t)] dX9_takesE_309 mwX9_rank lkX9_262 rfl (Nat.le_of_ble_eq_true rfl) (by omega) rfl rfl (c_rk ?_)
        show Aj γ mX9_takesE d 0 0 Post 312 [(4, vI (sgT B t)), (3, vI 0), (2, vI ((ntc (p ++ W) : Nat) : Int)), (1, vI ((o : Nat) : Int)), (0, vA 123)] [vI (rkF (sgT B t)), vA 123] (mk (up2 h 142 o 0) τ)
        refine b_callV (d' := d - 1) (mc' := 0) (ms' := 0) (mc1 := 0) (ms1 := 0) (st := []) (b := 123) [vI (rkF (sgT B t))] dX9_takesE_312 mwX9_settle lkX9_274 (by decide) rfl rc_X9 rfl (Nat.le_of_ble_eq_true rfl) (by omega) rfl rfl (c_setR (p := p) (V := W) (by omega) r2 (by omega) hwr hp hW (fun hs7 rs7 => ?_))
        show Aj γ mX9_takesE d 0 0 Post 315 [(4, vI (sgT B t)), (3, vI 0), (2, vI ((ntc (p ++ W) : Nat) : Int)), (1, vI ((o : Nat) : Int)), (0, vA 123)] [] (mk hs7 τ)
        refine a_aload_n (j := 4) dX9_takesE_315 rfl rfl (Nat.le_of_ble_eq_true rfl) ?_
        refine b_getp (a := 123) (p := 141) dX9_takesE_316 fwX9_63 (by decide) rfl (by decide) rfl rfl ?_
        refine a_aload_n (j := 4) dX9_takesE_319 rfl rfl (Nat.le_of_ble_eq_true rfl) ?_
        refine b_get (a := 123) (z := ((W.length : Nat) : Int)) (t := 0) dX9_takesE_320 fwX9_259 (by decide) rfl (by decide) rfl rfl rs7.2.1.1 ?_
        refine a_iload (j := 0) dX9_takesE_323 rfl ?_
        refine b_iastore (a := 141) W.length dX9_takesE_325 (by decide) rfl rfl (by omega) (sp_nil rfl _) ?_
        refine a_aload_n (j := 4) dX9_takesE_326 rfl rfl (Nat.le_of_ble_eq_true rfl) ?_
        refine a_dup dX9_takesE_327 (fun h => nomatch h) ?_
        refine b_get (a := 123) (z := ((W.length : Nat) : Int)) (t := 0) dX9_takesE_328 fwX9_259 (by decide) rfl (by decide) rfl rfl ((up2_ne (by omega)).trans rs7.2.1.1) ?_
        refine a_iconst dX9_takesE_331 ⟨by decide, by decide⟩ ?_
        refine a_iadd (z := (((W.length : Nat) : Int) + 1)) dX9_takesE_332 (w_ok (by omega) (by omega)) ?_
        refine b_put (a := 123) (v := vI (((W.length : Nat) : Int) + 1)) dX9_takesE_333 pwX9_259 (fun h => nomatch h) (by decide) rfl (by decide) rfl rfl (fit_int _) ?_
        show Aj γ mX9_takesE d 0 0 Post 336 [(4, vI (sgT B t)), (3, vI 0), (2, vI ((ntc (p ++ W) : Nat) : Int)), (1, vI ((o : Nat) : Int)), (0, vA 123)] [] (mk (up2 (up2 hs7 141 W.length (sgT B t)) 123 30 (((W.length : Nat) : Int) + 1)) τ)
        have r5 := RES_push (x := sgT B t) rs7
        refine a_iconst dX9_takesE_336 ⟨by decide, by decide⟩ ?_
        refine a_istore_n (lv' := [(3, vI 1), (4, vI (sgT B t)), (2, vI ((ntc (p ++ W) : Nat) : Int)), (1, vI ((o : Nat) : Int)), (0, vA 123)]) dX9_takesE_337 rfl (by decide) rfl ?_
        refine a_aload_n (j := 4) dX9_takesE_338 rfl rfl (Nat.le_of_ble_eq_true rfl) ?_
        refine b_callV (d' := d - 1) (mc' := 0) (ms' := 0) (mc1 := 0) (ms1 := 0) (st := []) (b := 123) [] dX9_takesE_339 mwX9_go lkX9_256 (by decide) rfl rc_X9 rfl (Nat.le_of_ble_eq_true rfl) (by omega) rfl rfl (c_goR (by omega) hm hBr hK3 r5 (by omega) (fun hg8 rg8 => ?_))
        show Aj γ mX9_takesE d 0 0 Post 342 [(3, vI 1), (4, vI (sgT B t)), (2, vI ((ntc (p ++ W) : Nat) : Int)), (1, vI ((o : Nat) : Int)), (0, vA 123)] [] (mk hg8 τ)
        refine a_goto (tgt := 28) dX9_takesE_342 (by decide) ?_
        have en : ntc (p ++ W) = ntc (sgT B t :: W) := by rw [ntc_sg hsg.2.1, ntc_app, hoW.2, Nat.zero_add]
        rw [en]
        exact a_lv (lv' := [(3, vI 1), (2, vI ((ntc (sgT B t :: W) : Nat) : Int)), (1, vI ((o : Nat) : Int)), (0, vA 123)]) (by intro q hq; simp only [List.mem_cons, List.not_mem_nil, or_false] at hq ⊢; rcases hq with rfl | rfl | rfl | rfl <;> simp) (g hln (wrW_c hsr (wrW_r hwr)) ((okW_s hsg.2.2 hsg.2.1).mpr hoW.1) ho hg8 rg8)
      · refine a_aload_n (j := 4) dX9_takesE_291 rfl rfl (Nat.le_of_ble_eq_true rfl) ?_
        refine b_getp (a := 123) (p := 142) dX9_takesE_292 fwX9_66 (by decide) rfl (by decide) rfl rfl ?_
        refine a_iload_n (j := 3) dX9_takesE_295 rfl rfl ?_
        refine b_zaload (a := 142) (z := 0) o dX9_takesE_296 (by decide) rfl rfl (by omega) (sp_nil rfl _) ((r.2.2.2.2.1 o (Nat.le_refl _)).trans (by rw [hTo]; rfl)) (fun r296_9 => ?_)
        refine a_if_eq (tgt := 304) dX9_takesE_297 (by decide) (fun _ => ?_) (fun c => absurd c (by decide))
        refine a_iconst dX9_takesE_304 ⟨by decide, by decide⟩ ?_
        refine b_zastore (a := 142) (z := 0) o dX9_takesE_305 (by decide) rfl rfl (by omega) (sp_nil rfl _) (by decide) ⟨by decide, by decide⟩ ?_
        have r2 := RES_t (o' := o) (v := 0) (T' := (fun j => if j = o then (decide (rkF (sgT B t) = 3) || (decide (3 < rkF (sgT B t)) && T j)) else T j)) r (Nat.le_succ o) (by show 0 = if (if o = o then (decide (rkF (sgT B t) = 3) || (decide (3 < rkF (sgT B t)) && T o)) else T o) = true then (1 : Int) else 0; rw [if_pos rfl, hTo]; by_cases z1 : rkF (sgT B t) = 3 <;> by_cases z2 : 3 < rkF (sgT B t) <;> simp [z1, z2] <;> omega) (fun j hj => if_neg hj)
        refine a_aload_n (j := 4) dX9_takesE_306 rfl rfl (Nat.le_of_ble_eq_true rfl) ?_
        refine a_iload (j := 0) dX9_takesE_307 rfl ?_
        refine a_callS (d' := d - 1) (mc' := 0) (ms' := 0) (mc1 := 0) (ms1 := 0) (st := [vA 123]) [vI (sgT B t)] dX9_takesE_309 mwX9_rank lkX9_262 rfl (Nat.le_of_ble_eq_true rfl) (by omega) rfl rfl (c_rk ?_)
        show Aj γ mX9_takesE d 0 0 Post 312 [(4, vI (sgT B t)), (3, vI 0), (2, vI ((ntc (p ++ W) : Nat) : Int)), (1, vI ((o : Nat) : Int)), (0, vA 123)] [vI (rkF (sgT B t)), vA 123] (mk (up2 h 142 o 0) τ)
        refine b_callV (d' := d - 1) (mc' := 0) (ms' := 0) (mc1 := 0) (ms1 := 0) (st := []) (b := 123) [vI (rkF (sgT B t))] dX9_takesE_312 mwX9_settle lkX9_274 (by decide) rfl rc_X9 rfl (Nat.le_of_ble_eq_true rfl) (by omega) rfl rfl (c_setR (p := p) (V := W) (by omega) r2 (by omega) hwr hp hW (fun hs10 rs10 => ?_))
        show Aj γ mX9_takesE d 0 0 Post 315 [(4, vI (sgT B t)), (3, vI 0), (2, vI ((ntc (p ++ W) : Nat) : Int)), (1, vI ((o : Nat) : Int)), (0, vA 123)] [] (mk hs10 τ)
        refine a_aload_n (j := 4) dX9_takesE_315 rfl rfl (Nat.le_of_ble_eq_true rfl) ?_
        refine b_getp (a := 123) (p := 141) dX9_takesE_316 fwX9_63 (by decide) rfl (by decide) rfl rfl ?_
        refine a_aload_n (j := 4) dX9_takesE_319 rfl rfl (Nat.le_of_ble_eq_true rfl) ?_
        refine b_get (a := 123) (z := ((W.length : Nat) : Int)) (t := 0) dX9_takesE_320 fwX9_259 (by decide) rfl (by decide) rfl rfl rs10.2.1.1 ?_
        refine a_iload (j := 0) dX9_takesE_323 rfl ?_
        refine b_iastore (a := 141) W.length dX9_takesE_325 (by decide) rfl rfl (by omega) (sp_nil rfl _) ?_
        refine a_aload_n (j := 4) dX9_takesE_326 rfl rfl (Nat.le_of_ble_eq_true rfl) ?_
        refine a_dup dX9_takesE_327 (fun h => nomatch h) ?_
        refine b_get (a := 123) (z := ((W.length : Nat) : Int)) (t := 0) dX9_takesE_328 fwX9_259 (by decide) rfl (by decide) rfl rfl ((up2_ne (by omega)).trans rs10.2.1.1) ?_
        refine a_iconst dX9_takesE_331 ⟨by decide, by decide⟩ ?_
        refine a_iadd (z := (((W.length : Nat) : Int) + 1)) dX9_takesE_332 (w_ok (by omega) (by omega)) ?_
        refine b_put (a := 123) (v := vI (((W.length : Nat) : Int) + 1)) dX9_takesE_333 pwX9_259 (fun h => nomatch h) (by decide) rfl (by decide) rfl rfl (fit_int _) ?_
        show Aj γ mX9_takesE d 0 0 Post 336 [(4, vI (sgT B t)), (3, vI 0), (2, vI ((ntc (p ++ W) : Nat) : Int)), (1, vI ((o : Nat) : Int)), (0, vA 123)] [] (mk (up2 (up2 hs10 141 W.length (sgT B t)) 123 30 (((W.length : Nat) : Int) + 1)) τ)
        have r5 := RES_push (x := sgT B t) rs10
        refine a_iconst dX9_takesE_336 ⟨by decide, by decide⟩ ?_
        refine a_istore_n (lv' := [(3, vI 1), (4, vI (sgT B t)), (2, vI ((ntc (p ++ W) : Nat) : Int)), (1, vI ((o : Nat) : Int)), (0, vA 123)]) dX9_takesE_337 rfl (by decide) rfl ?_
        refine a_aload_n (j := 4) dX9_takesE_338 rfl rfl (Nat.le_of_ble_eq_true rfl) ?_
        refine b_callV (d' := d - 1) (mc' := 0) (ms' := 0) (mc1 := 0) (ms1 := 0) (st := []) (b := 123) [] dX9_takesE_339 mwX9_go lkX9_256 (by decide) rfl rc_X9 rfl (Nat.le_of_ble_eq_true rfl) (by omega) rfl rfl (c_goR (by omega) hm hBr hK3 r5 (by omega) (fun hg11 rg11 => ?_))
        show Aj γ mX9_takesE d 0 0 Post 342 [(3, vI 1), (4, vI (sgT B t)), (2, vI ((ntc (p ++ W) : Nat) : Int)), (1, vI ((o : Nat) : Int)), (0, vA 123)] [] (mk hg11 τ)
        refine a_goto (tgt := 28) dX9_takesE_342 (by decide) ?_
        have en : ntc (p ++ W) = ntc (sgT B t :: W) := by rw [ntc_sg hsg.2.1, ntc_app, hoW.2, Nat.zero_add]
        rw [en]
        exact a_lv (lv' := [(3, vI 1), (2, vI ((ntc (sgT B t :: W) : Nat) : Int)), (1, vI ((o : Nat) : Int)), (0, vA 123)]) (by intro q hq; simp only [List.mem_cons, List.not_mem_nil, or_false] at hq ⊢; rcases hq with rfl | rfl | rfl | rfl <;> simp) (g hln (wrW_c hsr (wrW_r hwr)) ((okW_s hsg.2.2 hsg.2.1).mpr hoW.1) ho hg11 rg11)
    · refine a_aload_n (j := 4) dX9_takesE_257 rfl rfl (Nat.le_of_ble_eq_true rfl) ?_
      refine b_getp (a := 123) (p := 142) dX9_takesE_258 fwX9_66 (by decide) rfl (by decide) rfl rfl ?_
      refine a_iload_n (j := 3) dX9_takesE_261 rfl rfl ?_
      refine b_zaload (a := 142) (z := 0) o dX9_takesE_262 (by decide) rfl rfl (by omega) (sp_nil rfl _) ((r.2.2.2.2.1 o (Nat.le_refl _)).trans (by rw [hTo]; rfl)) (fun r262_12 => ?_)
      refine a_if_eq (tgt := 268) dX9_takesE_263 (by decide) (fun _ => ?_) (fun c => absurd c (by decide))
      refine a_aload_n (j := 4) dX9_takesE_268 rfl rfl (Nat.le_of_ble_eq_true rfl) ?_
      refine b_getp (a := 123) (p := 142) dX9_takesE_269 fwX9_66 (by decide) rfl (by decide) rfl rfl ?_
      refine a_iload_n (j := 3) dX9_takesE_272 rfl rfl ?_
      refine a_iload (j := 0) dX9_takesE_273 rfl ?_
      refine a_callS (d' := d - 1) (mc' := 0) (ms' := 0) (mc1 := 0) (ms1 := 0) (st := [vI ((o : Nat) : Int), vA 142]) [vI (sgT B t)] dX9_takesE_275 mwX9_rank lkX9_262 rfl (Nat.le_of_ble_eq_true rfl) (by omega) rfl rfl (c_rk ?_)
      show Aj γ mX9_takesE d 0 0 Post 278 [(4, vI (sgT B t)), (3, vI 0), (2, vI ((ntc (p ++ W) : Nat) : Int)), (1, vI ((o : Nat) : Int)), (0, vA 123)] [vI (rkF (sgT B t)), vI ((o : Nat) : Int), vA 142] (mk h τ)
      refine a_iconst dX9_takesE_278 ⟨by decide, by decide⟩ ?_
      refine a_icmp_eq (tgt := 300) dX9_takesE_279 (by decide) (fun c279_13 => ?_) (fun c279_13 => absurd c279_13 (by omega))
      refine a_iconst dX9_takesE_300 ⟨by decide, by decide⟩ ?_
      refine a_goto (tgt := 305) dX9_takesE_301 (by decide) ?_
      refine b_zastore (a := 142) (z := 1) o dX9_takesE_305 (by decide) rfl rfl (by omega) (sp_nil rfl _) (by decide) ⟨by decide, by decide⟩ ?_
      have r2 := RES_t (o' := o) (v := 1) (T' := (fun j => if j = o then (decide (rkF (sgT B t) = 3) || (decide (3 < rkF (sgT B t)) && T j)) else T j)) r (Nat.le_succ o) (by show 1 = if (if o = o then (decide (rkF (sgT B t) = 3) || (decide (3 < rkF (sgT B t)) && T o)) else T o) = true then (1 : Int) else 0; rw [if_pos rfl, hTo]; by_cases z1 : rkF (sgT B t) = 3 <;> by_cases z2 : 3 < rkF (sgT B t) <;> simp [z1, z2] <;> omega) (fun j hj => if_neg hj)
      refine a_aload_n (j := 4) dX9_takesE_306 rfl rfl (Nat.le_of_ble_eq_true rfl) ?_
      refine a_iload (j := 0) dX9_takesE_307 rfl ?_
      refine a_callS (d' := d - 1) (mc' := 0) (ms' := 0) (mc1 := 0) (ms1 := 0) (st := [vA 123]) [vI (sgT B t)] dX9_takesE_309 mwX9_rank lkX9_262 rfl (Nat.le_of_ble_eq_true rfl) (by omega) rfl rfl (c_rk ?_)
      show Aj γ mX9_takesE d 0 0 Post 312 [(4, vI (sgT B t)), (3, vI 0), (2, vI ((ntc (p ++ W) : Nat) : Int)), (1, vI ((o : Nat) : Int)), (0, vA 123)] [vI (rkF (sgT B t)), vA 123] (mk (up2 h 142 o 1) τ)
      refine b_callV (d' := d - 1) (mc' := 0) (ms' := 0) (mc1 := 0) (ms1 := 0) (st := []) (b := 123) [vI (rkF (sgT B t))] dX9_takesE_312 mwX9_settle lkX9_274 (by decide) rfl rc_X9 rfl (Nat.le_of_ble_eq_true rfl) (by omega) rfl rfl (c_setR (p := p) (V := W) (by omega) r2 (by omega) hwr hp hW (fun hs14 rs14 => ?_))
      show Aj γ mX9_takesE d 0 0 Post 315 [(4, vI (sgT B t)), (3, vI 0), (2, vI ((ntc (p ++ W) : Nat) : Int)), (1, vI ((o : Nat) : Int)), (0, vA 123)] [] (mk hs14 τ)
      refine a_aload_n (j := 4) dX9_takesE_315 rfl rfl (Nat.le_of_ble_eq_true rfl) ?_
      refine b_getp (a := 123) (p := 141) dX9_takesE_316 fwX9_63 (by decide) rfl (by decide) rfl rfl ?_
      refine a_aload_n (j := 4) dX9_takesE_319 rfl rfl (Nat.le_of_ble_eq_true rfl) ?_
      refine b_get (a := 123) (z := ((W.length : Nat) : Int)) (t := 0) dX9_takesE_320 fwX9_259 (by decide) rfl (by decide) rfl rfl rs14.2.1.1 ?_
      refine a_iload (j := 0) dX9_takesE_323 rfl ?_
      refine b_iastore (a := 141) W.length dX9_takesE_325 (by decide) rfl rfl (by omega) (sp_nil rfl _) ?_
      refine a_aload_n (j := 4) dX9_takesE_326 rfl rfl (Nat.le_of_ble_eq_true rfl) ?_
      refine a_dup dX9_takesE_327 (fun h => nomatch h) ?_
      refine b_get (a := 123) (z := ((W.length : Nat) : Int)) (t := 0) dX9_takesE_328 fwX9_259 (by decide) rfl (by decide) rfl rfl ((up2_ne (by omega)).trans rs14.2.1.1) ?_
      refine a_iconst dX9_takesE_331 ⟨by decide, by decide⟩ ?_
      refine a_iadd (z := (((W.length : Nat) : Int) + 1)) dX9_takesE_332 (w_ok (by omega) (by omega)) ?_
      refine b_put (a := 123) (v := vI (((W.length : Nat) : Int) + 1)) dX9_takesE_333 pwX9_259 (fun h => nomatch h) (by decide) rfl (by decide) rfl rfl (fit_int _) ?_
      show Aj γ mX9_takesE d 0 0 Post 336 [(4, vI (sgT B t)), (3, vI 0), (2, vI ((ntc (p ++ W) : Nat) : Int)), (1, vI ((o : Nat) : Int)), (0, vA 123)] [] (mk (up2 (up2 hs14 141 W.length (sgT B t)) 123 30 (((W.length : Nat) : Int) + 1)) τ)
      have r5 := RES_push (x := sgT B t) rs14
      refine a_iconst dX9_takesE_336 ⟨by decide, by decide⟩ ?_
      refine a_istore_n (lv' := [(3, vI 1), (4, vI (sgT B t)), (2, vI ((ntc (p ++ W) : Nat) : Int)), (1, vI ((o : Nat) : Int)), (0, vA 123)]) dX9_takesE_337 rfl (by decide) rfl ?_
      refine a_aload_n (j := 4) dX9_takesE_338 rfl rfl (Nat.le_of_ble_eq_true rfl) ?_
      refine b_callV (d' := d - 1) (mc' := 0) (ms' := 0) (mc1 := 0) (ms1 := 0) (st := []) (b := 123) [] dX9_takesE_339 mwX9_go lkX9_256 (by decide) rfl rc_X9 rfl (Nat.le_of_ble_eq_true rfl) (by omega) rfl rfl (c_goR (by omega) hm hBr hK3 r5 (by omega) (fun hg15 rg15 => ?_))
      show Aj γ mX9_takesE d 0 0 Post 342 [(3, vI 1), (4, vI (sgT B t)), (2, vI ((ntc (p ++ W) : Nat) : Int)), (1, vI ((o : Nat) : Int)), (0, vA 123)] [] (mk hg15 τ)
      refine a_goto (tgt := 28) dX9_takesE_342 (by decide) ?_
      have en : ntc (p ++ W) = ntc (sgT B t :: W) := by rw [ntc_sg hsg.2.1, ntc_app, hoW.2, Nat.zero_add]
      rw [en]
      exact a_lv (lv' := [(3, vI 1), (2, vI ((ntc (sgT B t :: W) : Nat) : Int)), (1, vI ((o : Nat) : Int)), (0, vA 123)]) (by intro q hq; simp only [List.mem_cons, List.not_mem_nil, or_false] at hq ⊢; rcases hq with rfl | rfl | rfl | rfl <;> simp) (g hln (wrW_c hsr (wrW_r hwr)) ((okW_s hsg.2.2 hsg.2.1).mpr hoW.1) ho hg15 rg15)
  · refine a_aload_n (j := 3) dX9_takesE_188 rfl rfl (Nat.le_of_ble_eq_true rfl) ?_
    refine b_get (a := 123) (z := (B t.2.1)) (t := 0) dX9_takesE_189 fwX9_247 (by decide) rfl (by decide) rfl rfl (r.1.2.2.2.2.2.1 (Or.inr (by omega))) ?_
    refine a_bipush dX9_takesE_192 ⟨by decide, by decide, by decide⟩ ?_
    refine a_icmp_ne (tgt := 237) dX9_takesE_194 (by decide) (fun c194_16 => ?_) (fun c194_16 => ?_)
    · refine a_aload_n (j := 3) dX9_takesE_237 rfl rfl (Nat.le_of_ble_eq_true rfl) ?_
      refine b_callV (d' := d - 1) (mc' := 0) (ms' := 0) (mc1 := 0) (ms1 := 0) (st := []) (b := 123) [] dX9_takesE_238 mwX9_signHere lkX9_284 (by decide) rfl rc_X9 rfl (Nat.le_of_ble_eq_true rfl) (by omega) rfl rfl (c_sgR r ?_)
      show Aj γ mX9_takesE d 0 0 Post 241 [(3, vI 0), (2, vI ((ntc (p ++ W) : Nat) : Int)), (1, vI ((o : Nat) : Int)), (0, vA 123)] [vI (sgT B t)] (mk h τ)
      refine a_istore (lv' := [(4, vI (sgT B t)), (3, vI 0), (2, vI ((ntc (p ++ W) : Nat) : Int)), (1, vI ((o : Nat) : Int)), (0, vA 123)]) dX9_takesE_241 (by decide) rfl ?_
      refine a_iload (j := 0) dX9_takesE_243 rfl ?_
      refine a_if_eq (tgt := 266) dX9_takesE_245 (by decide) (fun c245_17 => absurd c245_17 (by omega)) (fun c245_17 => ?_)
      refine a_iload (j := 0) dX9_takesE_248 rfl ?_
      refine a_callS (d' := d - 1) (mc' := 0) (ms' := 0) (mc1 := 0) (ms1 := 0) (st := []) [vI (sgT B t)] dX9_takesE_250 mwX9_rank lkX9_262 rfl (Nat.le_of_ble_eq_true rfl) (by omega) rfl rfl (c_rk ?_)
      show Aj γ mX9_takesE d 0 0 Post 253 [(4, vI (sgT B t)), (3, vI 0), (2, vI ((ntc (p ++ W) : Nat) : Int)), (1, vI ((o : Nat) : Int)), (0, vA 123)] [vI (rkF (sgT B t))] (mk h τ)
      refine a_iconst dX9_takesE_253 ⟨by decide, by decide⟩ ?_
      refine a_icmp_ne (tgt := 268) dX9_takesE_254 (by decide) (fun c254_18 => ?_) (fun c254_18 => ?_)
      · refine a_aload_n (j := 4) dX9_takesE_268 rfl rfl (Nat.le_of_ble_eq_true rfl) ?_
        refine b_getp (a := 123) (p := 142) dX9_takesE_269 fwX9_66 (by decide) rfl (by decide) rfl rfl ?_
        refine a_iload_n (j := 3) dX9_takesE_272 rfl rfl ?_
        refine a_iload (j := 0) dX9_takesE_273 rfl ?_
        refine a_callS (d' := d - 1) (mc' := 0) (ms' := 0) (mc1 := 0) (ms1 := 0) (st := [vI ((o : Nat) : Int), vA 142]) [vI (sgT B t)] dX9_takesE_275 mwX9_rank lkX9_262 rfl (Nat.le_of_ble_eq_true rfl) (by omega) rfl rfl (c_rk ?_)
        show Aj γ mX9_takesE d 0 0 Post 278 [(4, vI (sgT B t)), (3, vI 0), (2, vI ((ntc (p ++ W) : Nat) : Int)), (1, vI ((o : Nat) : Int)), (0, vA 123)] [vI (rkF (sgT B t)), vI ((o : Nat) : Int), vA 142] (mk h τ)
        refine a_iconst dX9_takesE_278 ⟨by decide, by decide⟩ ?_
        refine a_icmp_eq (tgt := 300) dX9_takesE_279 (by decide) (fun c279_19 => absurd c279_19 (by omega)) (fun c279_19 => ?_)
        refine a_iload (j := 0) dX9_takesE_282 rfl ?_
        refine a_callS (d' := d - 1) (mc' := 0) (ms' := 0) (mc1 := 0) (ms1 := 0) (st := [vI ((o : Nat) : Int), vA 142]) [vI (sgT B t)] dX9_takesE_284 mwX9_rank lkX9_262 rfl (Nat.le_of_ble_eq_true rfl) (by omega) rfl rfl (c_rk ?_)
        show Aj γ mX9_takesE d 0 0 Post 287 [(4, vI (sgT B t)), (3, vI 0), (2, vI ((ntc (p ++ W) : Nat) : Int)), (1, vI ((o : Nat) : Int)), (0, vA 123)] [vI (rkF (sgT B t)), vI ((o : Nat) : Int), vA 142] (mk h τ)
        refine a_iconst dX9_takesE_287 ⟨by decide, by decide⟩ ?_
        refine a_icmp_le (tgt := 304) dX9_takesE_288 (by decide) (fun c288_20 => ?_) (fun c288_20 => ?_)
        · refine a_iconst dX9_takesE_304 ⟨by decide, by decide⟩ ?_
          refine b_zastore (a := 142) (z := 0) o dX9_takesE_305 (by decide) rfl rfl (by omega) (sp_nil rfl _) (by decide) ⟨by decide, by decide⟩ ?_
          have r2 := RES_t (o' := o) (v := 0) (T' := (fun j => if j = o then (decide (rkF (sgT B t) = 3) || (decide (3 < rkF (sgT B t)) && T j)) else T j)) r (Nat.le_succ o) (by show 0 = if (if o = o then (decide (rkF (sgT B t) = 3) || (decide (3 < rkF (sgT B t)) && T o)) else T o) = true then (1 : Int) else 0; rw [if_pos rfl, hTo]; by_cases z1 : rkF (sgT B t) = 3 <;> by_cases z2 : 3 < rkF (sgT B t) <;> simp [z1, z2] <;> omega) (fun j hj => if_neg hj)
          refine a_aload_n (j := 4) dX9_takesE_306 rfl rfl (Nat.le_of_ble_eq_true rfl) ?_
          refine a_iload (j := 0) dX9_takesE_307 rfl ?_
          refine a_callS (d' := d - 1) (mc' := 0) (ms' := 0) (mc1 := 0) (ms1 := 0) (st := [vA 123]) [vI (sgT B t)] dX9_takesE_309 mwX9_rank lkX9_262 rfl (Nat.le_of_ble_eq_true rfl) (by omega) rfl rfl (c_rk ?_)
          show Aj γ mX9_takesE d 0 0 Post 312 [(4, vI (sgT B t)), (3, vI 0), (2, vI ((ntc (p ++ W) : Nat) : Int)), (1, vI ((o : Nat) : Int)), (0, vA 123)] [vI (rkF (sgT B t)), vA 123] (mk (up2 h 142 o 0) τ)
          refine b_callV (d' := d - 1) (mc' := 0) (ms' := 0) (mc1 := 0) (ms1 := 0) (st := []) (b := 123) [vI (rkF (sgT B t))] dX9_takesE_312 mwX9_settle lkX9_274 (by decide) rfl rc_X9 rfl (Nat.le_of_ble_eq_true rfl) (by omega) rfl rfl (c_setR (p := p) (V := W) (by omega) r2 (by omega) hwr hp hW (fun hs21 rs21 => ?_))
          show Aj γ mX9_takesE d 0 0 Post 315 [(4, vI (sgT B t)), (3, vI 0), (2, vI ((ntc (p ++ W) : Nat) : Int)), (1, vI ((o : Nat) : Int)), (0, vA 123)] [] (mk hs21 τ)
          refine a_aload_n (j := 4) dX9_takesE_315 rfl rfl (Nat.le_of_ble_eq_true rfl) ?_
          refine b_getp (a := 123) (p := 141) dX9_takesE_316 fwX9_63 (by decide) rfl (by decide) rfl rfl ?_
          refine a_aload_n (j := 4) dX9_takesE_319 rfl rfl (Nat.le_of_ble_eq_true rfl) ?_
          refine b_get (a := 123) (z := ((W.length : Nat) : Int)) (t := 0) dX9_takesE_320 fwX9_259 (by decide) rfl (by decide) rfl rfl rs21.2.1.1 ?_
          refine a_iload (j := 0) dX9_takesE_323 rfl ?_
          refine b_iastore (a := 141) W.length dX9_takesE_325 (by decide) rfl rfl (by omega) (sp_nil rfl _) ?_
          refine a_aload_n (j := 4) dX9_takesE_326 rfl rfl (Nat.le_of_ble_eq_true rfl) ?_
          refine a_dup dX9_takesE_327 (fun h => nomatch h) ?_
          refine b_get (a := 123) (z := ((W.length : Nat) : Int)) (t := 0) dX9_takesE_328 fwX9_259 (by decide) rfl (by decide) rfl rfl ((up2_ne (by omega)).trans rs21.2.1.1) ?_
          refine a_iconst dX9_takesE_331 ⟨by decide, by decide⟩ ?_
          refine a_iadd (z := (((W.length : Nat) : Int) + 1)) dX9_takesE_332 (w_ok (by omega) (by omega)) ?_
          refine b_put (a := 123) (v := vI (((W.length : Nat) : Int) + 1)) dX9_takesE_333 pwX9_259 (fun h => nomatch h) (by decide) rfl (by decide) rfl rfl (fit_int _) ?_
          show Aj γ mX9_takesE d 0 0 Post 336 [(4, vI (sgT B t)), (3, vI 0), (2, vI ((ntc (p ++ W) : Nat) : Int)), (1, vI ((o : Nat) : Int)), (0, vA 123)] [] (mk (up2 (up2 hs21 141 W.length (sgT B t)) 123 30 (((W.length : Nat) : Int) + 1)) τ)
          have r5 := RES_push (x := sgT B t) rs21
          refine a_iconst dX9_takesE_336 ⟨by decide, by decide⟩ ?_
          refine a_istore_n (lv' := [(3, vI 1), (4, vI (sgT B t)), (2, vI ((ntc (p ++ W) : Nat) : Int)), (1, vI ((o : Nat) : Int)), (0, vA 123)]) dX9_takesE_337 rfl (by decide) rfl ?_
          refine a_aload_n (j := 4) dX9_takesE_338 rfl rfl (Nat.le_of_ble_eq_true rfl) ?_
          refine b_callV (d' := d - 1) (mc' := 0) (ms' := 0) (mc1 := 0) (ms1 := 0) (st := []) (b := 123) [] dX9_takesE_339 mwX9_go lkX9_256 (by decide) rfl rc_X9 rfl (Nat.le_of_ble_eq_true rfl) (by omega) rfl rfl (c_goR (by omega) hm hBr hK3 r5 (by omega) (fun hg22 rg22 => ?_))
          show Aj γ mX9_takesE d 0 0 Post 342 [(3, vI 1), (4, vI (sgT B t)), (2, vI ((ntc (p ++ W) : Nat) : Int)), (1, vI ((o : Nat) : Int)), (0, vA 123)] [] (mk hg22 τ)
          refine a_goto (tgt := 28) dX9_takesE_342 (by decide) ?_
          have en : ntc (p ++ W) = ntc (sgT B t :: W) := by rw [ntc_sg hsg.2.1, ntc_app, hoW.2, Nat.zero_add]
          rw [en]
          exact a_lv (lv' := [(3, vI 1), (2, vI ((ntc (sgT B t :: W) : Nat) : Int)), (1, vI ((o : Nat) : Int)), (0, vA 123)]) (by intro q hq; simp only [List.mem_cons, List.not_mem_nil, or_false] at hq ⊢; rcases hq with rfl | rfl | rfl | rfl <;> simp) (g hln (wrW_c hsr (wrW_r hwr)) ((okW_s hsg.2.2 hsg.2.1).mpr hoW.1) ho hg22 rg22)
        · refine a_aload_n (j := 4) dX9_takesE_291 rfl rfl (Nat.le_of_ble_eq_true rfl) ?_
          refine b_getp (a := 123) (p := 142) dX9_takesE_292 fwX9_66 (by decide) rfl (by decide) rfl rfl ?_
          refine a_iload_n (j := 3) dX9_takesE_295 rfl rfl ?_
          refine b_zaload (a := 142) (z := 0) o dX9_takesE_296 (by decide) rfl rfl (by omega) (sp_nil rfl _) ((r.2.2.2.2.1 o (Nat.le_refl _)).trans (by rw [hTo]; rfl)) (fun r296_23 => ?_)
          refine a_if_eq (tgt := 304) dX9_takesE_297 (by decide) (fun _ => ?_) (fun c => absurd c (by decide))
          refine a_iconst dX9_takesE_304 ⟨by decide, by decide⟩ ?_
          refine b_zastore (a := 142) (z := 0) o dX9_takesE_305 (by decide) rfl rfl (by omega) (sp_nil rfl _) (by decide) ⟨by decide, by decide⟩ ?_
          have r2 := RES_t (o' := o) (v := 0) (T' := (fun j => if j = o then (decide (rkF (sgT B t) = 3) || (decide (3 < rkF (sgT B t)) && T j)) else T j)) r (Nat.le_succ o) (by show 0 = if (if o = o then (decide (rkF (sgT B t) = 3) || (decide (3 < rkF (sgT B t)) && T o)) else T o) = true then (1 : Int) else 0; rw [if_pos rfl, hTo]; by_cases z1 : rkF (sgT B t) = 3 <;> by_cases z2 : 3 < rkF (sgT B t) <;> simp [z1, z2] <;> omega) (fun j hj => if_neg hj)
          refine a_aload_n (j := 4) dX9_takesE_306 rfl rfl (Nat.le_of_ble_eq_true rfl) ?_
          refine a_iload (j := 0) dX9_takesE_307 rfl ?_
          refine a_callS (d' := d - 1) (mc' := 0) (ms' := 0) (mc1 := 0) (ms1 := 0) (st := [vA 123]) [vI (sgT B t)] dX9_takesE_309 mwX9_rank lkX9_262 rfl (Nat.le_of_ble_eq_true rfl) (by omega) rfl rfl (c_rk ?_)
          show Aj γ mX9_takesE d 0 0 Post 312 [(4, vI (sgT B t)), (3, vI 0), (2, vI ((ntc (p ++ W) : Nat) : Int)), (1, vI ((o : Nat) : Int)), (0, vA 123)] [vI (rkF (sgT B t)), vA 123] (mk (up2 h 142 o 0) τ)
          refine b_callV (d' := d - 1) (mc' := 0) (ms' := 0) (mc1 := 0) (ms1 := 0) (st := []) (b := 123) [vI (rkF (sgT B t))] dX9_takesE_312 mwX9_settle lkX9_274 (by decide) rfl rc_X9 rfl (Nat.le_of_ble_eq_true rfl) (by omega) rfl rfl (c_setR (p := p) (V := W) (by omega) r2 (by omega) hwr hp hW (fun hs24 rs24 => ?_))
          show Aj γ mX9_takesE d 0 0 Post 315 [(4, vI (sgT B t)), (3, vI 0), (2, vI ((ntc (p ++ W) : Nat) : Int)), (1, vI ((o : Nat) : Int)), (0, vA 123)] [] (mk hs24 τ)
          refine a_aload_n (j := 4) dX9_takesE_315 rfl rfl (Nat.le_of_ble_eq_true rfl) ?_
          refine b_getp (a := 123) (p := 141) dX9_takesE_316 fwX9_63 (by decide) rfl (by decide) rfl rfl ?_
          refine a_aload_n (j := 4) dX9_takesE_319 rfl rfl (Nat.le_of_ble_eq_true rfl) ?_
          refine b_get (a := 123) (z := ((W.length : Nat) : Int)) (t := 0) dX9_takesE_320 fwX9_259 (by decide) rfl (by decide) rfl rfl rs24.2.1.1 ?_
          refine a_iload (j := 0) dX9_takesE_323 rfl ?_
          refine b_iastore (a := 141) W.length dX9_takesE_325 (by decide) rfl rfl (by omega) (sp_nil rfl _) ?_
          refine a_aload_n (j := 4) dX9_takesE_326 rfl rfl (Nat.le_of_ble_eq_true rfl) ?_
          refine a_dup dX9_takesE_327 (fun h => nomatch h) ?_
          refine b_get (a := 123) (z := ((W.length : Nat) : Int)) (t := 0) dX9_takesE_328 fwX9_259 (by decide) rfl (by decide) rfl rfl ((up2_ne (by omega)).trans rs24.2.1.1) ?_
          refine a_iconst dX9_takesE_331 ⟨by decide, by decide⟩ ?_
          refine a_iadd (z := (((W.length : Nat) : Int) + 1)) dX9_takesE_332 (w_ok (by omega) (by omega)) ?_
          refine b_put (a := 123) (v := vI (((W.length : Nat) : Int) + 1)) dX9_takesE_333 pwX9_259 (fun h => nomatch h) (by decide) rfl (by decide) rfl rfl (fit_int _) ?_
          show Aj γ mX9_takesE d 0 0 Post 336 [(4, vI (sgT B t)), (3, vI 0), (2, vI ((ntc (p ++ W) : Nat) : Int)), (1, vI ((o : Nat) : Int)), (0, vA 123)] [] (mk (up2 (up2 hs24 141 W.length (sgT B t)) 123 30 (((W.length : Nat) : Int) + 1)) τ)
          have r5 := RES_push (x := sgT B t) rs24
          refine a_iconst dX9_takesE_336 ⟨by decide, by decide⟩ ?_
          refine a_istore_n (lv' := [(3, vI 1), (4, vI (sgT B t)), (2, vI ((ntc (p ++ W) : Nat) : Int)), (1, vI ((o : Nat) : Int)), (0, vA 123)]) dX9_takesE_337 rfl (by decide) rfl ?_
          refine a_aload_n (j := 4) dX9_takesE_338 rfl rfl (Nat.le_of_ble_eq_true rfl) ?_
          refine b_callV (d' := d - 1) (mc' := 0) (ms' := 0) (mc1 := 0) (ms1 := 0) (st := []) (b := 123) [] dX9_takesE_339 mwX9_go lkX9_256 (by decide) rfl rc_X9 rfl (Nat.le_of_ble_eq_true rfl) (by omega) rfl rfl (c_goR (by omega) hm hBr hK3 r5 (by omega) (fun hg25 rg25 => ?_))
          show Aj γ mX9_takesE d 0 0 Post 342 [(3, vI 1), (4, vI (sgT B t)), (2, vI ((ntc (p ++ W) : Nat) : Int)), (1, vI ((o : Nat) : Int)), (0, vA 123)] [] (mk hg25 τ)
          refine a_goto (tgt := 28) dX9_takesE_342 (by decide) ?_
          have en : ntc (p ++ W) = ntc (sgT B t :: W) := by rw [ntc_sg hsg.2.1, ntc_app, hoW.2, Nat.zero_add]
          rw [en]
          exact a_lv (lv' := [(3, vI 1), (2, vI ((ntc (sgT B t :: W) : Nat) : Int)), (1, vI ((o : Nat) : Int)), (0, vA 123)]) (by intro q hq; simp only [List.mem_cons, List.not_mem_nil, or_false] at hq ⊢; rcases hq with rfl | rfl | rfl | rfl <;> simp) (g hln (wrW_c hsr (wrW_r hwr)) ((okW_s hsg.2.2 hsg.2.1).mpr hoW.1) ho hg25 rg25)
      · refine a_aload_n (j := 4) dX9_takesE_257 rfl rfl (Nat.le_of_ble_eq_true rfl) ?_
        refine b_getp (a := 123) (p := 142) dX9_takesE_258 fwX9_66 (by decide) rfl (by decide) rfl rfl ?_
        refine a_iload_n (j := 3) dX9_takesE_261 rfl rfl ?_
        refine b_zaload (a := 142) (z := 0) o dX9_takesE_262 (by decide) rfl rfl (by omega) (sp_nil rfl _) ((r.2.2.2.2.1 o (Nat.le_refl _)).trans (by rw [hTo]; rfl)) (fun r262_26 => ?_)
        refine a_if_eq (tgt := 268) dX9_takesE_263 (by decide) (fun _ => ?_) (fun c => absurd c (by decide))
        refine a_aload_n (j := 4) dX9_takesE_268 rfl rfl (Nat.le_of_ble_eq_true rfl) ?_
        refine b_getp (a := 123) (p := 142) dX9_takesE_269 fwX9_66 (by decide) rfl (by decide) rfl rfl ?_
        refine a_iload_n (j := 3) dX9_takesE_272 rfl rfl ?_
        refine a_iload (j := 0) dX9_takesE_273 rfl ?_
        refine a_callS (d' := d - 1) (mc' := 0) (ms' := 0) (mc1 := 0) (ms1 := 0) (st := [vI ((o : Nat) : Int), vA 142]) [vI (sgT B t)] dX9_takesE_275 mwX9_rank lkX9_262 rfl (Nat.le_of_ble_eq_true rfl) (by omega) rfl rfl (c_rk ?_)
        show Aj γ mX9_takesE d 0 0 Post 278 [(4, vI (sgT B t)), (3, vI 0), (2, vI ((ntc (p ++ W) : Nat) : Int)), (1, vI ((o : Nat) : Int)), (0, vA 123)] [vI (rkF (sgT B t)), vI ((o : Nat) : Int), vA 142] (mk h τ)
        refine a_iconst dX9_takesE_278 ⟨by decide, by decide⟩ ?_
        refine a_icmp_eq (tgt := 300) dX9_takesE_279 (by decide) (fun c279_27 => ?_) (fun c279_27 => absurd c279_27 (by omega))
        refine a_iconst dX9_takesE_300 ⟨by decide, by decide⟩ ?_
        refine a_goto (tgt := 305) dX9_takesE_301 (by decide) ?_
        refine b_zastore (a := 142) (z := 1) o dX9_takesE_305 (by decide) rfl rfl (by omega) (sp_nil rfl _) (by decide) ⟨by decide, by decide⟩ ?_
        have r2 := RES_t (o' := o) (v := 1) (T' := (fun j => if j = o then (decide (rkF (sgT B t) = 3) || (decide (3 < rkF (sgT B t)) && T j)) else T j)) r (Nat.le_succ o) (by show 1 = if (if o = o then (decide (rkF (sgT B t) = 3) || (decide (3 < rkF (sgT B t)) && T o)) else T o) = true then (1 : Int) else 0; rw [if_pos rfl, hTo]; by_cases z1 : rkF (sgT B t) = 3 <;> by_cases z2 : 3 < rkF (sgT B t) <;> simp [z1, z2] <;> omega) (fun j hj => if_neg hj)
        refine a_aload_n (j := 4) dX9_takesE_306 rfl rfl (Nat.le_of_ble_eq_true rfl) ?_
        refine a_iload (j := 0) dX9_takesE_307 rfl ?_
        refine a_callS (d' := d - 1) (mc' := 0) (ms' := 0) (mc1 := 0) (ms1 := 0) (st := [vA 123]) [vI (sgT B t)] dX9_takesE_309 mwX9_rank lkX9_262 rfl (Nat.le_of_ble_eq_true rfl) (by omega) rfl rfl (c_rk ?_)
        show Aj γ mX9_takesE d 0 0 Post 312 [(4, vI (sgT B t)), (3, vI 0), (2, vI ((ntc (p ++ W) : Nat) : Int)), (1, vI ((o : Nat) : Int)), (0, vA 123)] [vI (rkF (sgT B t)), vA 123] (mk (up2 h 142 o 1) τ)
        refine b_callV (d' := d - 1) (mc' := 0) (ms' := 0) (mc1 := 0) (ms1 := 0) (st := []) (b := 123) [vI (rkF (sgT B t))] dX9_takesE_312 mwX9_settle lkX9_274 (by decide) rfl rc_X9 rfl (Nat.le_of_ble_eq_true rfl) (by omega) rfl rfl (c_setR (p := p) (V := W) (by omega) r2 (by omega) hwr hp hW (fun hs28 rs28 => ?_))
        show Aj γ mX9_takesE d 0 0 Post 315 [(4, vI (sgT B t)), (3, vI 0), (2, vI ((ntc (p ++ W) : Nat) : Int)), (1, vI ((o : Nat) : Int)), (0, vA 123)] [] (mk hs28 τ)
        refine a_aload_n (j := 4) dX9_takesE_315 rfl rfl (Nat.le_of_ble_eq_true rfl) ?_
        refine b_getp (a := 123) (p := 141) dX9_takesE_316 fwX9_63 (by decide) rfl (by decide) rfl rfl ?_
        refine a_aload_n (j := 4) dX9_takesE_319 rfl rfl (Nat.le_of_ble_eq_true rfl) ?_
        refine b_get (a := 123) (z := ((W.length : Nat) : Int)) (t := 0) dX9_takesE_320 fwX9_259 (by decide) rfl (by decide) rfl rfl rs28.2.1.1 ?_
        refine a_iload (j := 0) dX9_takesE_323 rfl ?_
        refine b_iastore (a := 141) W.length dX9_takesE_325 (by decide) rfl rfl (by omega) (sp_nil rfl _) ?_
        refine a_aload_n (j := 4) dX9_takesE_326 rfl rfl (Nat.le_of_ble_eq_true rfl) ?_
        refine a_dup dX9_takesE_327 (fun h => nomatch h) ?_
        refine b_get (a := 123) (z := ((W.length : Nat) : Int)) (t := 0) dX9_takesE_328 fwX9_259 (by decide) rfl (by decide) rfl rfl ((up2_ne (by omega)).trans rs28.2.1.1) ?_
        refine a_iconst dX9_takesE_331 ⟨by decide, by decide⟩ ?_
        refine a_iadd (z := (((W.length : Nat) : Int) + 1)) dX9_takesE_332 (w_ok (by omega) (by omega)) ?_
        refine b_put (a := 123) (v := vI (((W.length : Nat) : Int) + 1)) dX9_takesE_333 pwX9_259 (fun h => nomatch h) (by decide) rfl (by decide) rfl rfl (fit_int _) ?_
        show Aj γ mX9_takesE d 0 0 Post 336 [(4, vI (sgT B t)), (3, vI 0), (2, vI ((ntc (p ++ W) : Nat) : Int)), (1, vI ((o : Nat) : Int)), (0, vA 123)] [] (mk (up2 (up2 hs28 141 W.length (sgT B t)) 123 30 (((W.length : Nat) : Int) + 1)) τ)
        have r5 := RES_push (x := sgT B t) rs28
        refine a_iconst dX9_takesE_336 ⟨by decide, by decide⟩ ?_
        refine a_istore_n (lv' := [(3, vI 1), (4, vI (sgT B t)), (2, vI ((ntc (p ++ W) : Nat) : Int)), (1, vI ((o : Nat) : Int)), (0, vA 123)]) dX9_takesE_337 rfl (by decide) rfl ?_
        refine a_aload_n (j := 4) dX9_takesE_338 rfl rfl (Nat.le_of_ble_eq_true rfl) ?_
        refine b_callV (d' := d - 1) (mc' := 0) (ms' := 0) (mc1 := 0) (ms1 := 0) (st := []) (b := 123) [] dX9_takesE_339 mwX9_go lkX9_256 (by decide) rfl rc_X9 rfl (Nat.le_of_ble_eq_true rfl) (by omega) rfl rfl (c_goR (by omega) hm hBr hK3 r5 (by omega) (fun hg29 rg29 => ?_))
        show Aj γ mX9_takesE d 0 0 Post 342 [(3, vI 1), (4, vI (sgT B t)), (2, vI ((ntc (p ++ W) : Nat) : Int)), (1, vI ((o : Nat) : Int)), (0, vA 123)] [] (mk hg29 τ)
        refine a_goto (tgt := 28) dX9_takesE_342 (by decide) ?_
        have en : ntc (p ++ W) = ntc (sgT B t :: W) := by rw [ntc_sg hsg.2.1, ntc_app, hoW.2, Nat.zero_add]
        rw [en]
        exact a_lv (lv' := [(3, vI 1), (2, vI ((ntc (sgT B t :: W) : Nat) : Int)), (1, vI ((o : Nat) : Int)), (0, vA 123)]) (by intro q hq; simp only [List.mem_cons, List.not_mem_nil, or_false] at hq ⊢; rcases hq with rfl | rfl | rfl | rfl <;> simp) (g hln (wrW_c hsr (wrW_r hwr)) ((okW_s hsg.2.2 hsg.2.1).mpr hoW.1) ho hg29 rg29)
    · refine a_iload_n (j := 2) dX9_takesE_197 rfl rfl ?_
      refine a_if_le (tgt := 237) dX9_takesE_198 (by decide) (fun c198_30 => ?_) (fun c198_30 => ?_)
      · refine a_aload_n (j := 3) dX9_takesE_237 rfl rfl (Nat.le_of_ble_eq_true rfl) ?_
        refine b_callV (d' := d - 1) (mc' := 0) (ms' := 0) (mc1 := 0) (ms1 := 0) (st := []) (b := 123) [] dX9_takesE_238 mwX9_signHere lkX9_284 (by decide) rfl rc_X9 rfl (Nat.le_of_ble_eq_true rfl) (by omega) rfl rfl (c_sgR r ?_)
        show Aj γ mX9_takesE d 0 0 Post 241 [(3, vI 0), (2, vI ((ntc (p ++ W) : Nat) : Int)), (1, vI ((o : Nat) : Int)), (0, vA 123)] [vI (sgT B t)] (mk h τ)
        refine a_istore (lv' := [(4, vI (sgT B t)), (3, vI 0), (2, vI ((ntc (p ++ W) : Nat) : Int)), (1, vI ((o : Nat) : Int)), (0, vA 123)]) dX9_takesE_241 (by decide) rfl ?_
        refine a_iload (j := 0) dX9_takesE_243 rfl ?_
        refine a_if_eq (tgt := 266) dX9_takesE_245 (by decide) (fun c245_31 => absurd c245_31 (by omega)) (fun c245_31 => ?_)
        refine a_iload (j := 0) dX9_takesE_248 rfl ?_
        refine a_callS (d' := d - 1) (mc' := 0) (ms' := 0) (mc1 := 0) (ms1 := 0) (st := []) [vI (sgT B t)] dX9_takesE_250 mwX9_rank lkX9_262 rfl (Nat.le_of_ble_eq_true rfl) (by omega) rfl rfl (c_rk ?_)
        show Aj γ mX9_takesE d 0 0 Post 253 [(4, vI (sgT B t)), (3, vI 0), (2, vI ((ntc (p ++ W) : Nat) : Int)), (1, vI ((o : Nat) : Int)), (0, vA 123)] [vI (rkF (sgT B t))] (mk h τ)
        refine a_iconst dX9_takesE_253 ⟨by decide, by decide⟩ ?_
        refine a_icmp_ne (tgt := 268) dX9_takesE_254 (by decide) (fun c254_32 => ?_) (fun c254_32 => ?_)
        · refine a_aload_n (j := 4) dX9_takesE_268 rfl rfl (Nat.le_of_ble_eq_true rfl) ?_
          refine b_getp (a := 123) (p := 142) dX9_takesE_269 fwX9_66 (by decide) rfl (by decide) rfl rfl ?_
          refine a_iload_n (j := 3) dX9_takesE_272 rfl rfl ?_
          refine a_iload (j := 0) dX9_takesE_273 rfl ?_
          refine a_callS (d' := d - 1) (mc' := 0) (ms' := 0) (mc1 := 0) (ms1 := 0) (st := [vI ((o : Nat) : Int), vA 142]) [vI (sgT B t)] dX9_takesE_275 mwX9_rank lkX9_262 rfl (Nat.le_of_ble_eq_true rfl) (by omega) rfl rfl (c_rk ?_)
          show Aj γ mX9_takesE d 0 0 Post 278 [(4, vI (sgT B t)), (3, vI 0), (2, vI ((ntc (p ++ W) : Nat) : Int)), (1, vI ((o : Nat) : Int)), (0, vA 123)] [vI (rkF (sgT B t)), vI ((o : Nat) : Int), vA 142] (mk h τ)
          refine a_iconst dX9_takesE_278 ⟨by decide, by decide⟩ ?_
          refine a_icmp_eq (tgt := 300) dX9_takesE_279 (by decide) (fun c279_33 => absurd c279_33 (by omega)) (fun c279_33 => ?_)
          refine a_iload (j := 0) dX9_takesE_282 rfl ?_
          refine a_callS (d' := d - 1) (mc' := 0) (ms' := 0) (mc1 := 0) (ms1 := 0) (st := [vI ((o : Nat) : Int), vA 142]) [vI (sgT B t)] dX9_takesE_284 mwX9_rank lkX9_262 rfl (Nat.le_of_ble_eq_true rfl) (by omega) rfl rfl (c_rk ?_)
          show Aj γ mX9_takesE d 0 0 Post 287 [(4, vI (sgT B t)), (3, vI 0), (2, vI ((ntc (p ++ W) : Nat) : Int)), (1, vI ((o : Nat) : Int)), (0, vA 123)] [vI (rkF (sgT B t)), vI ((o : Nat) : Int), vA 142] (mk h τ)
          refine a_iconst dX9_takesE_287 ⟨by decide, by decide⟩ ?_
          refine a_icmp_le (tgt := 304) dX9_takesE_288 (by decide) (fun c288_34 => ?_) (fun c288_34 => ?_)
          · refine a_iconst dX9_takesE_304 ⟨by decide, by decide⟩ ?_
            refine b_zastore (a := 142) (z := 0) o dX9_takesE_305 (by decide) rfl rfl (by omega) (sp_nil rfl _) (by decide) ⟨by decide, by decide⟩ ?_
            have r2 := RES_t (o' := o) (v := 0) (T' := (fun j => if j = o then (decide (rkF (sgT B t) = 3) || (decide (3 < rkF (sgT B t)) && T j)) else T j)) r (Nat.le_succ o) (by show 0 = if (if o = o then (decide (rkF (sgT B t) = 3) || (decide (3 < rkF (sgT B t)) && T o)) else T o) = true then (1 : Int) else 0; rw [if_pos rfl, hTo]; by_cases z1 : rkF (sgT B t) = 3 <;> by_cases z2 : 3 < rkF (sgT B t) <;> simp [z1, z2] <;> omega) (fun j hj => if_neg hj)
            refine a_aload_n (j := 4) dX9_takesE_306 rfl rfl (Nat.le_of_ble_eq_true rfl) ?_
            refine a_iload (j := 0) dX9_takesE_307 rfl ?_
            refine a_callS (d' := d - 1) (mc' := 0) (ms' := 0) (mc1 := 0) (ms1 := 0) (st := [vA 123]) [vI (sgT B t)] dX9_takesE_309 mwX9_rank lkX9_262 rfl (Nat.le_of_ble_eq_true rfl) (by omega) rfl rfl (c_rk ?_)
            show Aj γ mX9_takesE d 0 0 Post 312 [(4, vI (sgT B t)), (3, vI 0), (2, vI ((ntc (p ++ W) : Nat) : Int)), (1, vI ((o : Nat) : Int)), (0, vA 123)] [vI (rkF (sgT B t)), vA 123] (mk (up2 h 142 o 0) τ)
            refine b_callV (d' := d - 1) (mc' := 0) (ms' := 0) (mc1 := 0) (ms1 := 0) (st := []) (b := 123) [vI (rkF (sgT B t))] dX9_takesE_312 mwX9_settle lkX9_274 (by decide) rfl rc_X9 rfl (Nat.le_of_ble_eq_true rfl) (by omega) rfl rfl (c_setR (p := p) (V := W) (by omega) r2 (by omega) hwr hp hW (fun hs35 rs35 => ?_))
            show Aj γ mX9_takesE d 0 0 Post 315 [(4, vI (sgT B t)), (3, vI 0), (2, vI ((ntc (p ++ W) : Nat) : Int)), (1, vI ((o : Nat) : Int)), (0, vA 123)] [] (mk hs35 τ)
            refine a_aload_n (j := 4) dX9_takesE_315 rfl rfl (Nat.le_of_ble_eq_true rfl) ?_
            refine b_getp (a := 123) (p := 141) dX9_takesE_316 fwX9_63 (by decide) rfl (by decide) rfl rfl ?_
            refine a_aload_n (j := 4) dX9_takesE_319 rfl rfl (Nat.le_of_ble_eq_true rfl) ?_
            refine b_get (a := 123) (z := ((W.length : Nat) : Int)) (t := 0) dX9_takesE_320 fwX9_259 (by decide) rfl (by decide) rfl rfl rs35.2.1.1 ?_
            refine a_iload (j := 0) dX9_takesE_323 rfl ?_
            refine b_iastore (a := 141) W.length dX9_takesE_325 (by decide) rfl rfl (by omega) (sp_nil rfl _) ?_
            refine a_aload_n (j := 4) dX9_takesE_326 rfl rfl (Nat.le_of_ble_eq_true rfl) ?_
            refine a_dup dX9_takesE_327 (fun h => nomatch h) ?_
            refine b_get (a := 123) (z := ((W.length : Nat) : Int)) (t := 0) dX9_takesE_328 fwX9_259 (by decide) rfl (by decide) rfl rfl ((up2_ne (by omega)).trans rs35.2.1.1) ?_
            refine a_iconst dX9_takesE_331 ⟨by decide, by decide⟩ ?_
            refine a_iadd (z := (((W.length : Nat) : Int) + 1)) dX9_takesE_332 (w_ok (by omega) (by omega)) ?_
            refine b_put (a := 123) (v := vI (((W.length : Nat) : Int) + 1)) dX9_takesE_333 pwX9_259 (fun h => nomatch h) (by decide) rfl (by decide) rfl rfl (fit_int _) ?_
            show Aj γ mX9_takesE d 0 0 Post 336 [(4, vI (sgT B t)), (3, vI 0), (2, vI ((ntc (p ++ W) : Nat) : Int)), (1, vI ((o : Nat) : Int)), (0, vA 123)] [] (mk (up2 (up2 hs35 141 W.length (sgT B t)) 123 30 (((W.length : Nat) : Int) + 1)) τ)
            have r5 := RES_push (x := sgT B t) rs35
            refine a_iconst dX9_takesE_336 ⟨by decide, by decide⟩ ?_
            refine a_istore_n (lv' := [(3, vI 1), (4, vI (sgT B t)), (2, vI ((ntc (p ++ W) : Nat) : Int)), (1, vI ((o : Nat) : Int)), (0, vA 123)]) dX9_takesE_337 rfl (by decide) rfl ?_
            refine a_aload_n (j := 4) dX9_takesE_338 rfl rfl (Nat.le_of_ble_eq_true rfl) ?_
            refine b_callV (d' := d - 1) (mc' := 0) (ms' := 0) (mc1 := 0) (ms1 := 0) (st := []) (b := 123) [] dX9_takesE_339 mwX9_go lkX9_256 (by decide) rfl rc_X9 rfl (Nat.le_of_ble_eq_true rfl) (by omega) rfl rfl (c_goR (by omega) hm hBr hK3 r5 (by omega) (fun hg36 rg36 => ?_))
            show Aj γ mX9_takesE d 0 0 Post 342 [(3, vI 1), (4, vI (sgT B t)), (2, vI ((ntc (p ++ W) : Nat) : Int)), (1, vI ((o : Nat) : Int)), (0, vA 123)] [] (mk hg36 τ)
            refine a_goto (tgt := 28) dX9_takesE_342 (by decide) ?_
            have en : ntc (p ++ W) = ntc (sgT B t :: W) := by rw [ntc_sg hsg.2.1, ntc_app, hoW.2, Nat.zero_add]
            rw [en]
            exact a_lv (lv' := [(3, vI 1), (2, vI ((ntc (sgT B t :: W) : Nat) : Int)), (1, vI ((o : Nat) : Int)), (0, vA 123)]) (by intro q hq; simp only [List.mem_cons, List.not_mem_nil, or_false] at hq ⊢; rcases hq with rfl | rfl | rfl | rfl <;> simp) (g hln (wrW_c hsr (wrW_r hwr)) ((okW_s hsg.2.2 hsg.2.1).mpr hoW.1) ho hg36 rg36)
          · refine a_aload_n (j := 4) dX9_takesE_291 rfl rfl (Nat.le_of_ble_eq_true rfl) ?_
            refine b_getp (a := 123) (p := 142) dX9_takesE_292 fwX9_66 (by decide) rfl (by decide) rfl rfl ?_
            refine a_iload_n (j := 3) dX9_takesE_295 rfl rfl ?_
            refine b_zaload (a := 142) (z := 0) o dX9_takesE_296 (by decide) rfl rfl (by omega) (sp_nil rfl _) ((r.2.2.2.2.1 o (Nat.le_refl _)).trans (by rw [hTo]; rfl)) (fun r296_37 => ?_)
            refine a_if_eq (tgt := 304) dX9_takesE_297 (by decide) (fun _ => ?_) (fun c => absurd c (by decide))
            refine a_iconst dX9_takesE_304 ⟨by decide, by decide⟩ ?_
            refine b_zastore (a := 142) (z := 0) o dX9_takesE_305 (by decide) rfl rfl (by omega) (sp_nil rfl _) (by decide) ⟨by decide, by decide⟩ ?_
            have r2 := RES_t (o' := o) (v := 0) (T' := (fun j => if j = o then (decide (rkF (sgT B t) = 3) || (decide (3 < rkF (sgT B t)) && T j)) else T j)) r (Nat.le_succ o) (by show 0 = if (if o = o then (decide (rkF (sgT B t) = 3) || (decide (3 < rkF (sgT B t)) && T o)) else T o) = true then (1 : Int) else 0; rw [if_pos rfl, hTo]; by_cases z1 : rkF (sgT B t) = 3 <;> by_cases z2 : 3 < rkF (sgT B t) <;> simp [z1, z2] <;> omega) (fun j hj => if_neg hj)
            refine a_aload_n (j := 4) dX9_takesE_306 rfl rfl (Nat.le_of_ble_eq_true rfl) ?_
            refine a_iload (j := 0) dX9_takesE_307 rfl ?_
            refine a_callS (d' := d - 1) (mc' := 0) (ms' := 0) (mc1 := 0) (ms1 := 0) (st := [vA 123]) [vI (sgT B t)] dX9_takesE_309 mwX9_rank lkX9_262 rfl (Nat.le_of_ble_eq_true rfl) (by omega) rfl rfl (c_rk ?_)
            show Aj γ mX9_takesE d 0 0 Post 312 [(4, vI (sgT B t)), (3, vI 0), (2, vI ((ntc (p ++ W) : Nat) : Int)), (1, vI ((o : Nat) : Int)), (0, vA 123)] [vI (rkF (sgT B t)), vA 123] (mk (up2 h 142 o 0) τ)
            refine b_callV (d' := d - 1) (mc' := 0) (ms' := 0) (mc1 := 0) (ms1 := 0) (st := []) (b := 123) [vI (rkF (sgT B t))] dX9_takesE_312 mwX9_settle lkX9_274 (by decide) rfl rc_X9 rfl (Nat.le_of_ble_eq_true rfl) (by omega) rfl rfl (c_setR (p := p) (V := W) (by omega) r2 (by omega) hwr hp hW (fun hs38 rs38 => ?_))
            show Aj γ mX9_takesE d 0 0 Post 315 [(4, vI (sgT B t)), (3, vI 0), (2, vI ((ntc (p ++ W) : Nat) : Int)), (1, vI ((o : Nat) : Int)), (0, vA 123)] [] (mk hs38 τ)
            refine a_aload_n (j := 4) dX9_takesE_315 rfl rfl (Nat.le_of_ble_eq_true rfl) ?_
            refine b_getp (a := 123) (p := 141) dX9_takesE_316 fwX9_63 (by decide) rfl (by decide) rfl rfl ?_
            refine a_aload_n (j := 4) dX9_takesE_319 rfl rfl (Nat.le_of_ble_eq_true rfl) ?_
            refine b_get (a := 123) (z := ((W.length : Nat) : Int)) (t := 0) dX9_takesE_320 fwX9_259 (by decide) rfl (by decide) rfl rfl rs38.2.1.1 ?_
            refine a_iload (j := 0) dX9_takesE_323 rfl ?_
            refine b_iastore (a := 141) W.length dX9_takesE_325 (by decide) rfl rfl (by omega) (sp_nil rfl _) ?_
            refine a_aload_n (j := 4) dX9_takesE_326 rfl rfl (Nat.le_of_ble_eq_true rfl) ?_
            refine a_dup dX9_takesE_327 (fun h => nomatch h) ?_
            refine b_get (a := 123) (z := ((W.length : Nat) : Int)) (t := 0) dX9_takesE_328 fwX9_259 (by decide) rfl (by decide) rfl rfl ((up2_ne (by omega)).trans rs38.2.1.1) ?_
            refine a_iconst dX9_takesE_331 ⟨by decide, by decide⟩ ?_
            refine a_iadd (z := (((W.length : Nat) : Int) + 1)) dX9_takesE_332 (w_ok (by omega) (by omega)) ?_
            refine b_put (a := 123) (v := vI (((W.length : Nat) : Int) + 1)) dX9_takesE_333 pwX9_259 (fun h => nomatch h) (by decide) rfl (by decide) rfl rfl (fit_int _) ?_
            show Aj γ mX9_takesE d 0 0 Post 336 [(4, vI (sgT B t)), (3, vI 0), (2, vI ((ntc (p ++ W) : Nat) : Int)), (1, vI ((o : Nat) : Int)), (0, vA 123)] [] (mk (up2 (up2 hs38 141 W.length (sgT B t)) 123 30 (((W.length : Nat) : Int) + 1)) τ)
            have r5 := RES_push (x := sgT B t) rs38
            refine a_iconst dX9_takesE_336 ⟨by decide, by decide⟩ ?_
            refine a_istore_n (lv' := [(3, vI 1), (4, vI (sgT B t)), (2, vI ((ntc (p ++ W) : Nat) : Int)), (1, vI ((o : Nat) : Int)), (0, vA 123)]) dX9_takesE_337 rfl (by decide) rfl ?_
            refine a_aload_n (j := 4) dX9_takesE_338 rfl rfl (Nat.le_of_ble_eq_true rfl) ?_
            refine b_callV (d' := d - 1) (mc' := 0) (ms' := 0) (mc1 := 0) (ms1 := 0) (st := []) (b := 123) [] dX9_takesE_339 mwX9_go lkX9_256 (by decide) rfl rc_X9 rfl (Nat.le_of_ble_eq_true rfl) (by omega) rfl rfl (c_goR (by omega) hm hBr hK3 r5 (by omega) (fun hg39 rg39 => ?_))
            show Aj γ mX9_takesE d 0 0 Post 342 [(3, vI 1), (4, vI (sgT B t)), (2, vI ((ntc (p ++ W) : Nat) : Int)), (1, vI ((o : Nat) : Int)), (0, vA 123)] [] (mk hg39 τ)
            refine a_goto (tgt := 28) dX9_takesE_342 (by decide) ?_
            have en : ntc (p ++ W) = ntc (sgT B t :: W) := by rw [ntc_sg hsg.2.1, ntc_app, hoW.2, Nat.zero_add]
            rw [en]
            exact a_lv (lv' := [(3, vI 1), (2, vI ((ntc (sgT B t :: W) : Nat) : Int)), (1, vI ((o : Nat) : Int)), (0, vA 123)]) (by intro q hq; simp only [List.mem_cons, List.not_mem_nil, or_false] at hq ⊢; rcases hq with rfl | rfl | rfl | rfl <;> simp) (g hln (wrW_c hsr (wrW_r hwr)) ((okW_s hsg.2.2 hsg.2.1).mpr hoW.1) ho hg39 rg39)
        · refine a_aload_n (j := 4) dX9_takesE_257 rfl rfl (Nat.le_of_ble_eq_true rfl) ?_
          refine b_getp (a := 123) (p := 142) dX9_takesE_258 fwX9_66 (by decide) rfl (by decide) rfl rfl ?_
          refine a_iload_n (j := 3) dX9_takesE_261 rfl rfl ?_
          refine b_zaload (a := 142) (z := 0) o dX9_takesE_262 (by decide) rfl rfl (by omega) (sp_nil rfl _) ((r.2.2.2.2.1 o (Nat.le_refl _)).trans (by rw [hTo]; rfl)) (fun r262_40 => ?_)
          refine a_if_eq (tgt := 268) dX9_takesE_263 (by decide) (fun _ => ?_) (fun c => absurd c (by decide))
          refine a_aload_n (j := 4) dX9_takesE_268 rfl rfl (Nat.le_of_ble_eq_true rfl) ?_
          refine b_getp (a := 123) (p := 142) dX9_takesE_269 fwX9_66 (by decide) rfl (by decide) rfl rfl ?_
          refine a_iload_n (j := 3) dX9_takesE_272 rfl rfl ?_
          refine a_iload (j := 0) dX9_takesE_273 rfl ?_
          refine a_callS (d' := d - 1) (mc' := 0) (ms' := 0) (mc1 := 0) (ms1 := 0) (st := [vI ((o : Nat) : Int), vA 142]) [vI (sgT B t)] dX9_takesE_275 mwX9_rank lkX9_262 rfl (Nat.le_of_ble_eq_true rfl) (by omega) rfl rfl (c_rk ?_)
          show Aj γ mX9_takesE d 0 0 Post 278 [(4, vI (sgT B t)), (3, vI 0), (2, vI ((ntc (p ++ W) : Nat) : Int)), (1, vI ((o : Nat) : Int)), (0, vA 123)] [vI (rkF (sgT B t)), vI ((o : Nat) : Int), vA 142] (mk h τ)
          refine a_iconst dX9_takesE_278 ⟨by decide, by decide⟩ ?_
          refine a_icmp_eq (tgt := 300) dX9_takesE_279 (by decide) (fun c279_41 => ?_) (fun c279_41 => absurd c279_41 (by omega))
          refine a_iconst dX9_takesE_300 ⟨by decide, by decide⟩ ?_
          refine a_goto (tgt := 305) dX9_takesE_301 (by decide) ?_
          refine b_zastore (a := 142) (z := 1) o dX9_takesE_305 (by decide) rfl rfl (by omega) (sp_nil rfl _) (by decide) ⟨by decide, by decide⟩ ?_
          have r2 := RES_t (o' := o) (v := 1) (T' := (fun j => if j = o then (decide (rkF (sgT B t) = 3) || (decide (3 < rkF (sgT B t)) && T j)) else T j)) r (Nat.le_succ o) (by show 1 = if (if o = o then (decide (rkF (sgT B t) = 3) || (decide (3 < rkF (sgT B t)) && T o)) else T o) = true then (1 : Int) else 0; rw [if_pos rfl, hTo]; by_cases z1 : rkF (sgT B t) = 3 <;> by_cases z2 : 3 < rkF (sgT B t) <;> simp [z1, z2] <;> omega) (fun j hj => if_neg hj)
          refine a_aload_n (j := 4) dX9_takesE_306 rfl rfl (Nat.le_of_ble_eq_true rfl) ?_
          refine a_iload (j := 0) dX9_takesE_307 rfl ?_
          refine a_callS (d' := d - 1) (mc' := 0) (ms' := 0) (mc1 := 0) (ms1 := 0) (st := [vA 123]) [vI (sgT B t)] dX9_takesE_309 mwX9_rank lkX9_262 rfl (Nat.le_of_ble_eq_true rfl) (by omega) rfl rfl (c_rk ?_)
          show Aj γ mX9_takesE d 0 0 Post 312 [(4, vI (sgT B t)), (3, vI 0), (2, vI ((ntc (p ++ W) : Nat) : Int)), (1, vI ((o : Nat) : Int)), (0, vA 123)] [vI (rkF (sgT B t)), vA 123] (mk (up2 h 142 o 1) τ)
          refine b_callV (d' := d - 1) (mc' := 0) (ms' := 0) (mc1 := 0) (ms1 := 0) (st := []) (b := 123) [vI (rkF (sgT B t))] dX9_takesE_312 mwX9_settle lkX9_274 (by decide) rfl rc_X9 rfl (Nat.le_of_ble_eq_true rfl) (by omega) rfl rfl (c_setR (p := p) (V := W) (by omega) r2 (by omega) hwr hp hW (fun hs42 rs42 => ?_))
          show Aj γ mX9_takesE d 0 0 Post 315 [(4, vI (sgT B t)), (3, vI 0), (2, vI ((ntc (p ++ W) : Nat) : Int)), (1, vI ((o : Nat) : Int)), (0, vA 123)] [] (mk hs42 τ)
          refine a_aload_n (j := 4) dX9_takesE_315 rfl rfl (Nat.le_of_ble_eq_true rfl) ?_
          refine b_getp (a := 123) (p := 141) dX9_takesE_316 fwX9_63 (by decide) rfl (by decide) rfl rfl ?_
          refine a_aload_n (j := 4) dX9_takesE_319 rfl rfl (Nat.le_of_ble_eq_true rfl) ?_
          refine b_get (a := 123) (z := ((W.length : Nat) : Int)) (t := 0) dX9_takesE_320 fwX9_259 (by decide) rfl (by decide) rfl rfl rs42.2.1.1 ?_
          refine a_iload (j := 0) dX9_takesE_323 rfl ?_
          refine b_iastore (a := 141) W.length dX9_takesE_325 (by decide) rfl rfl (by omega) (sp_nil rfl _) ?_
          refine a_aload_n (j := 4) dX9_takesE_326 rfl rfl (Nat.le_of_ble_eq_true rfl) ?_
          refine a_dup dX9_takesE_327 (fun h => nomatch h) ?_
          refine b_get (a := 123) (z := ((W.length : Nat) : Int)) (t := 0) dX9_takesE_328 fwX9_259 (by decide) rfl (by decide) rfl rfl ((up2_ne (by omega)).trans rs42.2.1.1) ?_
          refine a_iconst dX9_takesE_331 ⟨by decide, by decide⟩ ?_
          refine a_iadd (z := (((W.length : Nat) : Int) + 1)) dX9_takesE_332 (w_ok (by omega) (by omega)) ?_
          refine b_put (a := 123) (v := vI (((W.length : Nat) : Int) + 1)) dX9_takesE_333 pwX9_259 (fun h => nomatch h) (by decide) rfl (by decide) rfl rfl (fit_int _) ?_
          show Aj γ mX9_takesE d 0 0 Post 336 [(4, vI (sgT B t)), (3, vI 0), (2, vI ((ntc (p ++ W) : Nat) : Int)), (1, vI ((o : Nat) : Int)), (0, vA 123)] [] (mk (up2 (up2 hs42 141 W.length (sgT B t)) 123 30 (((W.length : Nat) : Int) + 1)) τ)
          have r5 := RES_push (x := sgT B t) rs42
          refine a_iconst dX9_takesE_336 ⟨by decide, by decide⟩ ?_
          refine a_istore_n (lv' := [(3, vI 1), (4, vI (sgT B t)), (2, vI ((ntc (p ++ W) : Nat) : Int)), (1, vI ((o : Nat) : Int)), (0, vA 123)]) dX9_takesE_337 rfl (by decide) rfl ?_
          refine a_aload_n (j := 4) dX9_takesE_338 rfl rfl (Nat.le_of_ble_eq_true rfl) ?_
          refine b_callV (d' := d - 1) (mc' := 0) (ms' := 0) (mc1 := 0) (ms1 := 0) (st := []) (b := 123) [] dX9_takesE_339 mwX9_go lkX9_256 (by decide) rfl rc_X9 rfl (Nat.le_of_ble_eq_true rfl) (by omega) rfl rfl (c_goR (by omega) hm hBr hK3 r5 (by omega) (fun hg43 rg43 => ?_))
          show Aj γ mX9_takesE d 0 0 Post 342 [(3, vI 1), (4, vI (sgT B t)), (2, vI ((ntc (p ++ W) : Nat) : Int)), (1, vI ((o : Nat) : Int)), (0, vA 123)] [] (mk hg43 τ)
          refine a_goto (tgt := 28) dX9_takesE_342 (by decide) ?_
          have en : ntc (p ++ W) = ntc (sgT B t :: W) := by rw [ntc_sg hsg.2.1, ntc_app, hoW.2, Nat.zero_add]
          rw [en]
          exact a_lv (lv' := [(3, vI 1), (2, vI ((ntc (sgT B t :: W) : Nat) : Int)), (1, vI ((o : Nat) : Int)), (0, vA 123)]) (by intro q hq; simp only [List.mem_cons, List.not_mem_nil, or_false] at hq ⊢; rcases hq with rfl | rfl | rfl | rfl <;> simp) (g hln (wrW_c hsr (wrW_r hwr)) ((okW_s hsg.2.2 hsg.2.1).mpr hoW.1) ho hg43 rg43)
      · exfalso
        omega
set_option maxHeartbeats 8000000 in
theorem sy_nos1 {γ : GT} {d : Nat} {B : Nat → Int} {n K : Nat} {h0 : Nat → Nat → Int} {τ : List AC} {Post : Option AV → List AC → Prop} (hd : 5 ≤ d) (hm : n ≤ 96) (hBr : ∀ k, 0 ≤ B k ∧ B k ≤ 255) (hK3 : K < 3) {t : Tk} {W C : List Int} {o : Nat} {T : Nat → Bool} (hTo : T o = true) (h0' : ¬ t.1 = 0) (h1 : ¬ (t.1 = 3 ∧ B t.2.1 = 41 ∧ 0 < o)) (h2 : sgT B t = 0 ∨ (rkF (sgT B t) = 3 ∧ T o = true)) (f : FLp Post τ B n K h0 t) : GLp γ d Post τ B n K h0 t W C o false T := by
  intro hbd hwr hok ho h r
  have hV := r.1.2.2.2.2.2.2.2.2.2
  have hv1 := hV.1
  have hv2 := hV.2.1
  have hv3 := hV.2.2.2.1
  have hr3 := rtk_3 t
  have hr0 := rtk_0 t
  have hnl := ntc_le (W := W)
  have hnx := nxt_V (B := B) (n := n) (t := t) hv2
  show Aj γ mX9_takesE d 0 0 Post 28 [(3, vI 0), (2, vI ((ntc W : Nat) : Int)), (1, vI ((o : Nat) : Int)), (0, vA 123)] [] (mk h τ)
  refine a_iload_n (j := 0) dX9_takesE_28 rfl rfl ?_
  refine a_if_ne (tgt := 39) dX9_takesE_29 (by decide) (fun c => absurd c (by decide)) (fun _ => ?_)
  refine a_aload_n (j := 3) dX9_takesE_32 rfl rfl (Nat.le_of_ble_eq_true rfl) ?_
  refine b_get (a := 123) (z := (rtk t)) (t := 0) dX9_takesE_33 fwX9_241 (by decide) rfl (by decide) rfl rfl r.1.2.2.2.2.1 ?_
  refine a_if_eq (tgt := 345) dX9_takesE_36 (by decide) (fun c36_1 => absurd c36_1 (by omega)) (fun c36_1 => ?_)
  refine a_iload_n (j := 0) dX9_takesE_39 rfl rfl ?_
  refine a_if_eq (tgt := 180) dX9_takesE_40 (by decide) (fun _ => ?_) (fun c => absurd c (by decide))
  refine a_aload_n (j := 3) dX9_takesE_180 rfl rfl (Nat.le_of_ble_eq_true rfl) ?_
  refine b_get (a := 123) (z := (rtk t)) (t := 0) dX9_takesE_181 fwX9_241 (by decide) rfl (by decide) rfl rfl r.1.2.2.2.2.1 ?_
  refine a_iconst dX9_takesE_184 ⟨by decide, by decide⟩ ?_
  refine a_icmp_ne (tgt := 237) dX9_takesE_185 (by decide) (fun c185_2 => ?_) (fun c185_2 => ?_)
  · refine a_aload_n (j := 3) dX9_takesE_237 rfl rfl (Nat.le_of_ble_eq_true rfl) ?_
    refine b_callV (d' := d - 1) (mc' := 0) (ms' := 0) (mc1 := 0) (ms1 := 0) (st := []) (b := 123) [] dX9_takesE_238 mwX9_signHere lkX9_284 (by decide) rfl rc_X9 rfl (Nat.le_of_ble_eq_true rfl) (by omega) rfl rfl (c_sgR r ?_)
    show Aj γ mX9_takesE d 0 0 Post 241 [(3, vI 0), (2, vI ((ntc W : Nat) : Int)), (1, vI ((o : Nat) : Int)), (0, vA 123)] [vI (sgT B t)] (mk h τ)
    refine a_istore (lv' := [(4, vI (sgT B t)), (3, vI 0), (2, vI ((ntc W : Nat) : Int)), (1, vI ((o : Nat) : Int)), (0, vA 123)]) dX9_takesE_241 (by decide) rfl ?_
    refine a_iload (j := 0) dX9_takesE_243 rfl ?_
    refine a_if_eq (tgt := 266) dX9_takesE_245 (by decide) (fun c245_3 => ?_) (fun c245_3 => ?_)
    · refine a_iconst dX9_takesE_266 ⟨by decide, by decide⟩ ?_
      exact a_zret dX9_takesE_267 rfl (by first | exact Or.inl rfl | exact Or.inr rfl | omega) (f h W C o T r)
    · refine a_iload (j := 0) dX9_takesE_248 rfl ?_
      refine a_callS (d' := d - 1) (mc' := 0) (ms' := 0) (mc1 := 0) (ms1 := 0) (st := []) [vI (sgT B t)] dX9_takesE_250 mwX9_rank lkX9_262 rfl (Nat.le_of_ble_eq_true rfl) (by omega) rfl rfl (c_rk ?_)
      show Aj γ mX9_takesE d 0 0 Post 253 [(4, vI (sgT B t)), (3, vI 0), (2, vI ((ntc W : Nat) : Int)), (1, vI ((o : Nat) : Int)), (0, vA 123)] [vI (rkF (sgT B t))] (mk h τ)
      refine a_iconst dX9_takesE_253 ⟨by decide, by decide⟩ ?_
      refine a_icmp_ne (tgt := 268) dX9_takesE_254 (by decide) (fun c254_4 => ?_) (fun c254_4 => ?_)
      · exfalso
        rcases h2 with q | q
        · omega
        · first | (have := q.1; omega) | (have := q.2; rw [hTo] at this; exact nomatch this)
      · refine a_aload_n (j := 4) dX9_takesE_257 rfl rfl (Nat.le_of_ble_eq_true rfl) ?_
        refine b_getp (a := 123) (p := 142) dX9_takesE_258 fwX9_66 (by decide) rfl (by decide) rfl rfl ?_
        refine a_iload_n (j := 3) dX9_takesE_261 rfl rfl ?_
        refine b_zaload (a := 142) (z := 1) o dX9_takesE_262 (by decide) rfl rfl (by omega) (sp_nil rfl _) ((r.2.2.2.2.1 o (Nat.le_refl _)).trans (by rw [hTo]; rfl)) (fun r262_5 => ?_)
        refine a_if_eq (tgt := 268) dX9_takesE_263 (by decide) (fun c => absurd c (by decide)) (fun _ => ?_)
        refine a_iconst dX9_takesE_266 ⟨by decide, by decide⟩ ?_
        exact a_zret dX9_takesE_267 rfl (by first | exact Or.inl rfl | exact Or.inr rfl | omega) (f h W C o T r)
  · refine a_aload_n (j := 3) dX9_takesE_188 rfl rfl (Nat.le_of_ble_eq_true rfl) ?_
    refine b_get (a := 123) (z := (B t.2.1)) (t := 0) dX9_takesE_189 fwX9_247 (by decide) rfl (by decide) rfl rfl (r.1.2.2.2.2.2.1 (Or.inr (by omega))) ?_
    refine a_bipush dX9_takesE_192 ⟨by decide, by decide, by decide⟩ ?_
    refine a_icmp_ne (tgt := 237) dX9_takesE_194 (by decide) (fun c194_6 => ?_) (fun c194_6 => ?_)
    · refine a_aload_n (j := 3) dX9_takesE_237 rfl rfl (Nat.le_of_ble_eq_true rfl) ?_
      refine b_callV (d' := d - 1) (mc' := 0) (ms' := 0) (mc1 := 0) (ms1 := 0) (st := []) (b := 123) [] dX9_takesE_238 mwX9_signHere lkX9_284 (by decide) rfl rc_X9 rfl (Nat.le_of_ble_eq_true rfl) (by omega) rfl rfl (c_sgR r ?_)
      show Aj γ mX9_takesE d 0 0 Post 241 [(3, vI 0), (2, vI ((ntc W : Nat) : Int)), (1, vI ((o : Nat) : Int)), (0, vA 123)] [vI (sgT B t)] (mk h τ)
      refine a_istore (lv' := [(4, vI (sgT B t)), (3, vI 0), (2, vI ((ntc W : Nat) : Int)), (1, vI ((o : Nat) : Int)), (0, vA 123)]) dX9_takesE_241 (by decide) rfl ?_
      refine a_iload (j := 0) dX9_takesE_243 rfl ?_
      refine a_if_eq (tgt := 266) dX9_takesE_245 (by decide) (fun c245_7 => ?_) (fun c245_7 => ?_)
      · refine a_iconst dX9_takesE_266 ⟨by decide, by decide⟩ ?_
        exact a_zret dX9_takesE_267 rfl (by first | exact Or.inl rfl | exact Or.inr rfl | omega) (f h W C o T r)
      · refine a_iload (j := 0) dX9_takesE_248 rfl ?_
        refine a_callS (d' := d - 1) (mc' := 0) (ms' := 0) (mc1 := 0) (ms1 := 0) (st := []) [vI (sgT B t)] dX9_takesE_250 mwX9_rank lkX9_262 rfl (Nat.le_of_ble_eq_true rfl) (by omega) rfl rfl (c_rk ?_)
        show Aj γ mX9_takesE d 0 0 Post 253 [(4, vI (sgT B t)), (3, vI 0), (2, vI ((ntc W : Nat) : Int)), (1, vI ((o : Nat) : Int)), (0, vA 123)] [vI (rkF (sgT B t))] (mk h τ)
        refine a_iconst dX9_takesE_253 ⟨by decide, by decide⟩ ?_
        refine a_icmp_ne (tgt := 268) dX9_takesE_254 (by decide) (fun c254_8 => ?_) (fun c254_8 => ?_)
        · exfalso
          rcases h2 with q | q
          · omega
          · first | (have := q.1; omega) | (have := q.2; rw [hTo] at this; exact nomatch this)
        · refine a_aload_n (j := 4) dX9_takesE_257 rfl rfl (Nat.le_of_ble_eq_true rfl) ?_
          refine b_getp (a := 123) (p := 142) dX9_takesE_258 fwX9_66 (by decide) rfl (by decide) rfl rfl ?_
          refine a_iload_n (j := 3) dX9_takesE_261 rfl rfl ?_
          refine b_zaload (a := 142) (z := 1) o dX9_takesE_262 (by decide) rfl rfl (by omega) (sp_nil rfl _) ((r.2.2.2.2.1 o (Nat.le_refl _)).trans (by rw [hTo]; rfl)) (fun r262_9 => ?_)
          refine a_if_eq (tgt := 268) dX9_takesE_263 (by decide) (fun c => absurd c (by decide)) (fun _ => ?_)
          refine a_iconst dX9_takesE_266 ⟨by decide, by decide⟩ ?_
          exact a_zret dX9_takesE_267 rfl (by first | exact Or.inl rfl | exact Or.inr rfl | omega) (f h W C o T r)
    · refine a_iload_n (j := 2) dX9_takesE_197 rfl rfl ?_
      refine a_if_le (tgt := 237) dX9_takesE_198 (by decide) (fun c198_10 => ?_) (fun c198_10 => ?_)
      · refine a_aload_n (j := 3) dX9_takesE_237 rfl rfl (Nat.le_of_ble_eq_true rfl) ?_
        refine b_callV (d' := d - 1) (mc' := 0) (ms' := 0) (mc1 := 0) (ms1 := 0) (st := []) (b := 123) [] dX9_takesE_238 mwX9_signHere lkX9_284 (by decide) rfl rc_X9 rfl (Nat.le_of_ble_eq_true rfl) (by omega) rfl rfl (c_sgR r ?_)
        show Aj γ mX9_takesE d 0 0 Post 241 [(3, vI 0), (2, vI ((ntc W : Nat) : Int)), (1, vI ((o : Nat) : Int)), (0, vA 123)] [vI (sgT B t)] (mk h τ)
        refine a_istore (lv' := [(4, vI (sgT B t)), (3, vI 0), (2, vI ((ntc W : Nat) : Int)), (1, vI ((o : Nat) : Int)), (0, vA 123)]) dX9_takesE_241 (by decide) rfl ?_
        refine a_iload (j := 0) dX9_takesE_243 rfl ?_
        refine a_if_eq (tgt := 266) dX9_takesE_245 (by decide) (fun c245_11 => ?_) (fun c245_11 => ?_)
        · refine a_iconst dX9_takesE_266 ⟨by decide, by decide⟩ ?_
          exact a_zret dX9_takesE_267 rfl (by first | exact Or.inl rfl | exact Or.inr rfl | omega) (f h W C o T r)
        · refine a_iload (j := 0) dX9_takesE_248 rfl ?_
          refine a_callS (d' := d - 1) (mc' := 0) (ms' := 0) (mc1 := 0) (ms1 := 0) (st := []) [vI (sgT B t)] dX9_takesE_250 mwX9_rank lkX9_262 rfl (Nat.le_of_ble_eq_true rfl) (by omega) rfl rfl (c_rk ?_)
          show Aj γ mX9_takesE d 0 0 Post 253 [(4, vI (sgT B t)), (3, vI 0), (2, vI ((ntc W : Nat) : Int)), (1, vI ((o : Nat) : Int)), (0, vA 123)] [vI (rkF (sgT B t))] (mk h τ)
          refine a_iconst dX9_takesE_253 ⟨by decide, by decide⟩ ?_
          refine a_icmp_ne (tgt := 268) dX9_takesE_254 (by decide) (fun c254_12 => ?_) (fun c254_12 => ?_)
          · exfalso
            rcases h2 with q | q
            · omega
            · first | (have := q.1; omega) | (have := q.2; rw [hTo] at this; exact nomatch this)
          · refine a_aload_n (j := 4) dX9_takesE_257 rfl rfl (Nat.le_of_ble_eq_true rfl) ?_
            refine b_getp (a := 123) (p := 142) dX9_takesE_258 fwX9_66 (by decide) rfl (by decide) rfl rfl ?_
            refine a_iload_n (j := 3) dX9_takesE_261 rfl rfl ?_
            refine b_zaload (a := 142) (z := 1) o dX9_takesE_262 (by decide) rfl rfl (by omega) (sp_nil rfl _) ((r.2.2.2.2.1 o (Nat.le_refl _)).trans (by rw [hTo]; rfl)) (fun r262_13 => ?_)
            refine a_if_eq (tgt := 268) dX9_takesE_263 (by decide) (fun c => absurd c (by decide)) (fun _ => ?_)
            refine a_iconst dX9_takesE_266 ⟨by decide, by decide⟩ ?_
            exact a_zret dX9_takesE_267 rfl (by first | exact Or.inl rfl | exact Or.inr rfl | omega) (f h W C o T r)
      · exfalso
        exact h1 ⟨by omega, by omega, by omega⟩
set_option maxHeartbeats 8000000 in
theorem sy_nos0 {γ : GT} {d : Nat} {B : Nat → Int} {n K : Nat} {h0 : Nat → Nat → Int} {τ : List AC} {Post : Option AV → List AC → Prop} (hd : 5 ≤ d) (hm : n ≤ 96) (hBr : ∀ k, 0 ≤ B k ∧ B k ≤ 255) (hK3 : K < 3) {t : Tk} {W C : List Int} {o : Nat} {T : Nat → Bool} (hTo : T o = false) (h0' : ¬ t.1 = 0) (h1 : ¬ (t.1 = 3 ∧ B t.2.1 = 41 ∧ 0 < o)) (h2 : sgT B t = 0 ∨ (rkF (sgT B t) = 3 ∧ T o = true)) (f : FLp Post τ B n K h0 t) : GLp γ d Post τ B n K h0 t W C o false T := by
  intro hbd hwr hok ho h r
  have hV := r.1.2.2.2.2.2.2.2.2.2
  have hv1 := hV.1
  have hv2 := hV.2.1
  have hv3 := hV.2.2.2.1
  have hr3 := rtk_3 t
  have hr0 := rtk_0 t
  have hnl := ntc_le (W := W)
  have hnx := nxt_V (B := B) (n := n) (t := t) hv2
  show Aj γ mX9_takesE d 0 0 Post 28 [(3, vI 0), (2, vI ((ntc W : Nat) : Int)), (1, vI ((o : Nat) : Int)), (0, vA 123)] [] (mk h τ)
  refine a_iload_n (j := 0) dX9_takesE_28 rfl rfl ?_
  refine a_if_ne (tgt := 39) dX9_takesE_29 (by decide) (fun c => absurd c (by decide)) (fun _ => ?_)
  refine a_aload_n (j := 3) dX9_takesE_32 rfl rfl (Nat.le_of_ble_eq_true rfl) ?_
  refine b_get (a := 123) (z := (rtk t)) (t := 0) dX9_takesE_33 fwX9_241 (by decide) rfl (by decide) rfl rfl r.1.2.2.2.2.1 ?_
  refine a_if_eq (tgt := 345) dX9_takesE_36 (by decide) (fun c36_1 => absurd c36_1 (by omega)) (fun c36_1 => ?_)
  refine a_iload_n (j := 0) dX9_takesE_39 rfl rfl ?_
  refine a_if_eq (tgt := 180) dX9_takesE_40 (by decide) (fun _ => ?_) (fun c => absurd c (by decide))
  refine a_aload_n (j := 3) dX9_takesE_180 rfl rfl (Nat.le_of_ble_eq_true rfl) ?_
  refine b_get (a := 123) (z := (rtk t)) (t := 0) dX9_takesE_181 fwX9_241 (by decide) rfl (by decide) rfl rfl r.1.2.2.2.2.1 ?_
  refine a_iconst dX9_takesE_184 ⟨by decide, by decide⟩ ?_
  refine a_icmp_ne (tgt := 237) dX9_takesE_185 (by decide) (fun c185_2 => ?_) (fun c185_2 => ?_)
  · refine a_aload_n (j := 3) dX9_takesE_237 rfl rfl (Nat.le_of_ble_eq_true rfl) ?_
    refine b_callV (d' := d - 1) (mc' := 0) (ms' := 0) (mc1 := 0) (ms1 := 0) (st := []) (b := 123) [] dX9_takesE_238 mwX9_signHere lkX9_284 (by decide) rfl rc_X9 rfl (Nat.le_of_ble_eq_true rfl) (by omega) rfl rfl (c_sgR r ?_)
    show Aj γ mX9_takesE d 0 0 Post 241 [(3, vI 0), (2, vI ((ntc W : Nat) : Int)), (1, vI ((o : Nat) : Int)), (0, vA 123)] [vI (sgT B t)] (mk h τ)
    refine a_istore (lv' := [(4, vI (sgT B t)), (3, vI 0), (2, vI ((ntc W : Nat) : Int)), (1, vI ((o : Nat) : Int)), (0, vA 123)]) dX9_takesE_241 (by decide) rfl ?_
    refine a_iload (j := 0) dX9_takesE_243 rfl ?_
    refine a_if_eq (tgt := 266) dX9_takesE_245 (by decide) (fun c245_3 => ?_) (fun c245_3 => ?_)
    · refine a_iconst dX9_takesE_266 ⟨by decide, by decide⟩ ?_
      exact a_zret dX9_takesE_267 rfl (by first | exact Or.inl rfl | exact Or.inr rfl | omega) (f h W C o T r)
    · refine a_iload (j := 0) dX9_takesE_248 rfl ?_
      refine a_callS (d' := d - 1) (mc' := 0) (ms' := 0) (mc1 := 0) (ms1 := 0) (st := []) [vI (sgT B t)] dX9_takesE_250 mwX9_rank lkX9_262 rfl (Nat.le_of_ble_eq_true rfl) (by omega) rfl rfl (c_rk ?_)
      show Aj γ mX9_takesE d 0 0 Post 253 [(4, vI (sgT B t)), (3, vI 0), (2, vI ((ntc W : Nat) : Int)), (1, vI ((o : Nat) : Int)), (0, vA 123)] [vI (rkF (sgT B t))] (mk h τ)
      refine a_iconst dX9_takesE_253 ⟨by decide, by decide⟩ ?_
      refine a_icmp_ne (tgt := 268) dX9_takesE_254 (by decide) (fun c254_4 => ?_) (fun c254_4 => ?_)
      · exfalso
        rcases h2 with q | q
        · omega
        · first | (have := q.1; omega) | (have := q.2; rw [hTo] at this; exact nomatch this)
      · refine a_aload_n (j := 4) dX9_takesE_257 rfl rfl (Nat.le_of_ble_eq_true rfl) ?_
        refine b_getp (a := 123) (p := 142) dX9_takesE_258 fwX9_66 (by decide) rfl (by decide) rfl rfl ?_
        refine a_iload_n (j := 3) dX9_takesE_261 rfl rfl ?_
        refine b_zaload (a := 142) (z := 0) o dX9_takesE_262 (by decide) rfl rfl (by omega) (sp_nil rfl _) ((r.2.2.2.2.1 o (Nat.le_refl _)).trans (by rw [hTo]; rfl)) (fun r262_5 => ?_)
        refine a_if_eq (tgt := 268) dX9_takesE_263 (by decide) (fun _ => ?_) (fun c => absurd c (by decide))
        exfalso
        rcases h2 with q | q
        · omega
        · first | (have := q.1; omega) | (have := q.2; rw [hTo] at this; exact nomatch this)
  · refine a_aload_n (j := 3) dX9_takesE_188 rfl rfl (Nat.le_of_ble_eq_true rfl) ?_
    refine b_get (a := 123) (z := (B t.2.1)) (t := 0) dX9_takesE_189 fwX9_247 (by decide) rfl (by decide) rfl rfl (r.1.2.2.2.2.2.1 (Or.inr (by omega))) ?_
    refine a_bipush dX9_takesE_192 ⟨by decide, by decide, by decide⟩ ?_
    refine a_icmp_ne (tgt := 237) dX9_takesE_194 (by decide) (fun c194_6 => ?_) (fun c194_6 => ?_)
    · refine a_aload_n (j := 3) dX9_takesE_237 rfl rfl (Nat.le_of_ble_eq_true rfl) ?_
      refine b_callV (d' := d - 1) (mc' := 0) (ms' := 0) (mc1 := 0) (ms1 := 0) (st := []) (b := 123) [] dX9_takesE_238 mwX9_signHere lkX9_284 (by decide) rfl rc_X9 rfl (Nat.le_of_ble_eq_true rfl) (by omega) rfl rfl (c_sgR r ?_)
      show Aj γ mX9_takesE d 0 0 Post 241 [(3, vI 0), (2, vI ((ntc W : Nat) : Int)), (1, vI ((o : Nat) : Int)), (0, vA 123)] [vI (sgT B t)] (mk h τ)
      refine a_istore (lv' := [(4, vI (sgT B t)), (3, vI 0), (2, vI ((ntc W : Nat) : Int)), (1, vI ((o : Nat) : Int)), (0, vA 123)]) dX9_takesE_241 (by decide) rfl ?_
      refine a_iload (j := 0) dX9_takesE_243 rfl ?_
      refine a_if_eq (tgt := 266) dX9_takesE_245 (by decide) (fun c245_7 => ?_) (fun c245_7 => ?_)
      · refine a_iconst dX9_takesE_266 ⟨by decide, by decide⟩ ?_
        exact a_zret dX9_takesE_267 rfl (by first | exact Or.inl rfl | exact Or.inr rfl | omega) (f h W C o T r)
      · refine a_iload (j := 0) dX9_takesE_248 rfl ?_
        refine a_callS (d' := d - 1) (mc' := 0) (ms' := 0) (mc1 := 0) (ms1 := 0) (st := []) [vI (sgT B t)] dX9_takesE_250 mwX9_rank lkX9_262 rfl (Nat.le_of_ble_eq_true rfl) (by omega) rfl rfl (c_rk ?_)
        show Aj γ mX9_takesE d 0 0 Post 253 [(4, vI (sgT B t)), (3, vI 0), (2, vI ((ntc W : Nat) : Int)), (1, vI ((o : Nat) : Int)), (0, vA 123)] [vI (rkF (sgT B t))] (mk h τ)
        refine a_iconst dX9_takesE_253 ⟨by decide, by decide⟩ ?_
        refine a_icmp_ne (tgt := 268) dX9_takesE_254 (by decide) (fun c254_8 => ?_) (fun c254_8 => ?_)
        · exfalso
          rcases h2 with q | q
          · omega
          · first | (have := q.1; omega) | (have := q.2; rw [hTo] at this; exact nomatch this)
        · refine a_aload_n (j := 4) dX9_takesE_257 rfl rfl (Nat.le_of_ble_eq_true rfl) ?_
          refine b_getp (a := 123) (p := 142) dX9_takesE_258 fwX9_66 (by decide) rfl (by decide) rfl rfl ?_
          refine a_iload_n (j := 3) dX9_takesE_261 rfl rfl ?_
          refine b_zaload (a := 142) (z := 0) o dX9_takesE_262 (by decide) rfl rfl (by omega) (sp_nil rfl _) ((r.2.2.2.2.1 o (Nat.le_refl _)).trans (by rw [hTo]; rfl)) (fun r262_9 => ?_)
          refine a_if_eq (tgt := 268) dX9_takesE_263 (by decide) (fun _ => ?_) (fun c => absurd c (by decide))
          exfalso
          rcases h2 with q | q
          · omega
          · first | (have := q.1; omega) | (have := q.2; rw [hTo] at this; exact nomatch this)
    · refine a_iload_n (j := 2) dX9_takesE_197 rfl rfl ?_
      refine a_if_le (tgt := 237) dX9_takesE_198 (by decide) (fun c198_10 => ?_) (fun c198_10 => ?_)
      · refine a_aload_n (j := 3) dX9_takesE_237 rfl rfl (Nat.le_of_ble_eq_true rfl) ?_
        refine b_callV (d' := d - 1) (mc' := 0) (ms' := 0) (mc1 := 0) (ms1 := 0) (st := []) (b := 123) [] dX9_takesE_238 mwX9_signHere lkX9_284 (by decide) rfl rc_X9 rfl (Nat.le_of_ble_eq_true rfl) (by omega) rfl rfl (c_sgR r ?_)
        show Aj γ mX9_takesE d 0 0 Post 241 [(3, vI 0), (2, vI ((ntc W : Nat) : Int)), (1, vI ((o : Nat) : Int)), (0, vA 123)] [vI (sgT B t)] (mk h τ)
        refine a_istore (lv' := [(4, vI (sgT B t)), (3, vI 0), (2, vI ((ntc W : Nat) : Int)), (1, vI ((o : Nat) : Int)), (0, vA 123)]) dX9_takesE_241 (by decide) rfl ?_
        refine a_iload (j := 0) dX9_takesE_243 rfl ?_
        refine a_if_eq (tgt := 266) dX9_takesE_245 (by decide) (fun c245_11 => ?_) (fun c245_11 => ?_)
        · refine a_iconst dX9_takesE_266 ⟨by decide, by decide⟩ ?_
          exact a_zret dX9_takesE_267 rfl (by first | exact Or.inl rfl | exact Or.inr rfl | omega) (f h W C o T r)
        · refine a_iload (j := 0) dX9_takesE_248 rfl ?_
          refine a_callS (d' := d - 1) (mc' := 0) (ms' := 0) (mc1 := 0) (ms1 := 0) (st := []) [vI (sgT B t)] dX9_takesE_250 mwX9_rank lkX9_262 rfl (Nat.le_of_ble_eq_true rfl) (by omega) rfl rfl (c_rk ?_)
          show Aj γ mX9_takesE d 0 0 Post 253 [(4, vI (sgT B t)), (3, vI 0), (2, vI ((ntc W : Nat) : Int)), (1, vI ((o : Nat) : Int)), (0, vA 123)] [vI (rkF (sgT B t))] (mk h τ)
          refine a_iconst dX9_takesE_253 ⟨by decide, by decide⟩ ?_
          refine a_icmp_ne (tgt := 268) dX9_takesE_254 (by decide) (fun c254_12 => ?_) (fun c254_12 => ?_)
          · exfalso
            rcases h2 with q | q
            · omega
            · first | (have := q.1; omega) | (have := q.2; rw [hTo] at this; exact nomatch this)
          · refine a_aload_n (j := 4) dX9_takesE_257 rfl rfl (Nat.le_of_ble_eq_true rfl) ?_
            refine b_getp (a := 123) (p := 142) dX9_takesE_258 fwX9_66 (by decide) rfl (by decide) rfl rfl ?_
            refine a_iload_n (j := 3) dX9_takesE_261 rfl rfl ?_
            refine b_zaload (a := 142) (z := 0) o dX9_takesE_262 (by decide) rfl rfl (by omega) (sp_nil rfl _) ((r.2.2.2.2.1 o (Nat.le_refl _)).trans (by rw [hTo]; rfl)) (fun r262_13 => ?_)
            refine a_if_eq (tgt := 268) dX9_takesE_263 (by decide) (fun _ => ?_) (fun c => absurd c (by decide))
            exfalso
            rcases h2 with q | q
            · omega
            · first | (have := q.1; omega) | (have := q.2; rw [hTo] at this; exact nomatch this)
      · exfalso
        exact h1 ⟨by omega, by omega, by omega⟩
theorem spl_o : ∀ W : List Int, ∃ p V : List Int, p ++ V = W ∧ (∀ x : Int, x ∈ p → ¬ x = -11) ∧ ∀ (y : Int) (r : List Int), V = y :: r → y = -11
  | [] => ⟨[], [], rfl, fun x hx => absurd hx List.not_mem_nil, fun y r e => nomatch e⟩
  | x :: W => by
    by_cases c : x = -11
    · exact ⟨[], x :: W, rfl, fun x hx => absurd hx List.not_mem_nil, fun y r e => by injection e with e1 e2; rw [← e1]; exact c⟩
    · obtain ⟨p, V, h1, h2, h3⟩ := spl_o W
      refine ⟨x :: p, V, by rw [← h1]; rfl, ?_, h3⟩
      intro y hy
      rcases List.mem_cons.mp hy with q | q
      · rw [q]; exact c
      · exact h2 y q
set_option maxHeartbeats 8000000 in
theorem sy_endo {γ : GT} {d : Nat} {B : Nat → Int} {n K : Nat} {h0 : Nat → Nat → Int} {τ : List AC} {Post : Option AV → List AC → Prop} (hd : 5 ≤ d) (hm : n ≤ 96) (hBr : ∀ k, 0 ≤ B k ∧ B k ≤ 255) (hK3 : K < 3) {t : Tk} {W C : List Int} {o : Nat} {T : Nat → Bool} (h0' : t.1 = 0) (f : FLp Post τ B n K h0 t) : GLp γ d Post τ B n K h0 t W C (o + 1) false T := by
  intro hbd hwr hok ho h r
  have hV := r.1.2.2.2.2.2.2.2.2.2
  have hv1 := hV.1
  have hv2 := hV.2.1
  have hv3 := hV.2.2.2.1
  have hr3 := rtk_3 t
  have hr0 := rtk_0 t
  have hnl := ntc_le (W := W)
  have hnx := nxt_V (B := B) (n := n) (t := t) hv2
  obtain ⟨p, V, hpV, hp, hVo⟩ := spl_o W
  have r2 := r
  rw [← hpV] at r2
  show Aj γ mX9_takesE d 0 0 Post 28 [(3, vI 0), (2, vI ((ntc W : Nat) : Int)), (1, vI (((o + 1) : Nat) : Int)), (0, vA 123)] [] (mk h τ)
  refine a_iload_n (j := 0) dX9_takesE_28 rfl rfl ?_
  refine a_if_ne (tgt := 39) dX9_takesE_29 (by decide) (fun c => absurd c (by decide)) (fun _ => ?_)
  refine a_aload_n (j := 3) dX9_takesE_32 rfl rfl (Nat.le_of_ble_eq_true rfl) ?_
  refine b_get (a := 123) (z := (rtk t)) (t := 0) dX9_takesE_33 fwX9_241 (by decide) rfl (by decide) rfl rfl r.1.2.2.2.2.1 ?_
  refine a_if_eq (tgt := 345) dX9_takesE_36 (by decide) (fun c36_1 => ?_) (fun c36_1 => absurd c36_1 (by omega))
  refine a_aload_n (j := 3) dX9_takesE_345 rfl rfl (Nat.le_of_ble_eq_true rfl) ?_
  refine a_iconst dX9_takesE_346 ⟨by decide, by decide⟩ ?_
  refine b_callV (d' := d - 1) (mc' := 0) (ms' := 0) (mc1 := 0) (ms1 := 0) (st := []) (b := 123) [vI 0] dX9_takesE_347 mwX9_settle lkX9_274 (by decide) rfl rc_X9 rfl (Nat.le_of_ble_eq_true rfl) (by omega) rfl rfl (c_setR (p := p) (V := V) (by omega) r2 (by rw [hpV]; omega) (by rw [hpV]; exact hwr) (fun x hx => ⟨hp x hx, by have := rkF_rng x; omega⟩) (fun y q e => Or.inl (hVo y q e)) (fun hs2 rs2 => ?_))
  show Aj γ mX9_takesE d 0 0 Post 350 [(3, vI 0), (2, vI ((ntc W : Nat) : Int)), (1, vI (((o + 1) : Nat) : Int)), (0, vA 123)] [] (mk hs2 τ)
  refine a_iload_n (j := 2) dX9_takesE_350 rfl rfl ?_
  refine a_if_ne (tgt := 358) dX9_takesE_351 (by decide) (fun c351_3 => ?_) (fun c351_3 => ?_)
  · refine a_iconst dX9_takesE_358 ⟨by decide, by decide⟩ ?_
    exact a_zret dX9_takesE_359 rfl (by first | exact Or.inl rfl | exact Or.inr rfl | omega) (f _ _ _ _ _ rs2)
  · refine a_iconst dX9_takesE_354 ⟨by decide, by decide⟩ ?_
    refine a_goto (tgt := 359) dX9_takesE_355 (by decide) ?_
    exact a_zret dX9_takesE_359 rfl (by first | exact Or.inl rfl | exact Or.inr rfl | omega) (by exfalso; omega)
set_option maxHeartbeats 8000000 in
theorem sy_end {γ : GT} {d : Nat} {B : Nat → Int} {n K : Nat} {h0 : Nat → Nat → Int} {τ : List AC} {Post : Option AV → List AC → Prop} (hd : 5 ≤ d) (hm : n ≤ 96) (hBr : ∀ k, 0 ≤ B k ∧ B k ≤ 255) (hK3 : K < 3) {t : Tk} {p C : List Int} {T : Nat → Bool} (h0' : t.1 = 0) (hp : ∀ x : Int, x ∈ p → ¬ x = -11) (k : ∀ h, RES B n K h0 h t [] (C ++ p) 0 T → Post (some (vI 1)) (mk h τ)) : GLp γ d Post τ B n K h0 t p C 0 false T := by
  intro hbd hwr hok ho h r
  have hV := r.1.2.2.2.2.2.2.2.2.2
  have hv1 := hV.1
  have hv2 := hV.2.1
  have hv3 := hV.2.2.2.1
  have hr3 := rtk_3 t
  have hr0 := rtk_0 t
  have hnl := ntc_le (W := p)
  have hnx := nxt_V (B := B) (n := n) (t := t) hv2
  have r2 := r
  rw [← List.append_nil p] at r2
  show Aj γ mX9_takesE d 0 0 Post 28 [(3, vI 0), (2, vI ((ntc p : Nat) : Int)), (1, vI 0), (0, vA 123)] [] (mk h τ)
  refine a_iload_n (j := 0) dX9_takesE_28 rfl rfl ?_
  refine a_if_ne (tgt := 39) dX9_takesE_29 (by decide) (fun c => absurd c (by decide)) (fun _ => ?_)
  refine a_aload_n (j := 3) dX9_takesE_32 rfl rfl (Nat.le_of_ble_eq_true rfl) ?_
  refine b_get (a := 123) (z := (rtk t)) (t := 0) dX9_takesE_33 fwX9_241 (by decide) rfl (by decide) rfl rfl r.1.2.2.2.2.1 ?_
  refine a_if_eq (tgt := 345) dX9_takesE_36 (by decide) (fun c36_1 => ?_) (fun c36_1 => absurd c36_1 (by omega))
  refine a_aload_n (j := 3) dX9_takesE_345 rfl rfl (Nat.le_of_ble_eq_true rfl) ?_
  refine a_iconst dX9_takesE_346 ⟨by decide, by decide⟩ ?_
  refine b_callV (d' := d - 1) (mc' := 0) (ms' := 0) (mc1 := 0) (ms1 := 0) (st := []) (b := 123) [vI 0] dX9_takesE_347 mwX9_settle lkX9_274 (by decide) rfl rc_X9 rfl (Nat.le_of_ble_eq_true rfl) (by omega) rfl rfl (c_setR (p := p) (V := []) (by omega) r2 (by rw [List.append_nil]; omega) (by rw [List.append_nil]; exact hwr) (fun x hx => ⟨hp x hx, by have := rkF_rng x; omega⟩) (fun y q e => nomatch e) (fun hs2 rs2 => ?_))
  show Aj γ mX9_takesE d 0 0 Post 350 [(3, vI 0), (2, vI ((ntc p : Nat) : Int)), (1, vI 0), (0, vA 123)] [] (mk hs2 τ)
  refine a_iload_n (j := 2) dX9_takesE_350 rfl rfl ?_
  refine a_if_ne (tgt := 358) dX9_takesE_351 (by decide) (fun c => absurd c (by decide)) (fun _ => ?_)
  refine a_iconst dX9_takesE_354 ⟨by decide, by decide⟩ ?_
  refine a_goto (tgt := 359) dX9_takesE_355 (by decide) ?_
  exact a_zret dX9_takesE_359 rfl (by first | exact Or.inl rfl | exact Or.inr rfl | omega) (k _ rs2)
theorem SY_all {γ : GT} {d : Nat} {B : Nat → Int} {n K : Nat} {h0 : Nat → Nat → Int} {τ : List AC} {Post : Option AV → List AC → Prop} (hd : 5 ≤ d) (hm : n ≤ 96) (hBr : ∀ k, 0 ≤ B k ∧ B k ≤ 255) (hK3 : K < 3) : SYC B n ((K : Nat) : Int) (FLp Post τ B n K h0) (GLp γ d Post τ B n K h0) :=
  ⟨fun t W C o T h0 h1 h2 g => sy_not hd hm hBr hK3 h0 h1 h2 g, fun t W C o T h0 h1 h2 g => sy_open hd hm hBr hK3 h0 h1 h2 g, fun t W C o T h0 h1 g => sy_leaf hd hm hBr hK3 h0 h1 g, fun t W C o T h0 h1 h2 f => sy_none hd hm hBr hK3 h0 h1 h2 f, fun t p W C o T h0 h1 hp g => sy_close hd hm hBr hK3 h0 h1 hp g, fun t p W C o T h0 h1 hp hW g => by
    cases hTo : T o with
    | true => exact sy_sign1 hd hm hBr hK3 hTo h0 h1 hp hW g
    | false => exact sy_sign0 hd hm hBr hK3 hTo h0 h1 hp hW g, fun t W C o T h0 h1 h2 f => by
    cases hTo : T o with
    | true => exact sy_nos1 hd hm hBr hK3 hTo h0 h1 h2 f
    | false => exact sy_nos0 hd hm hBr hK3 hTo h0 h1 h2 f, fun t W C o T h0 f => sy_endo hd hm hBr hK3 h0 f⟩
set_option maxHeartbeats 8000000 in
theorem c_takesE {γ : GT} {d : Nat} {B : Nat → Int} {n K : Nat} {t t' : Tk} {b : Bool} {cs : List Int} {h : Nat → Nat → Int} {τ : List AC} {Post : Option AV → List AC → Prop} (hd : 5 ≤ d) (hm : n ≤ 96) (hBr : ∀ k, 0 ≤ B k ∧ B k ≤ 255) (hK3 : K < 3) (rt : RTk B n h t) (eK : h 123 23 = ((K : Nat) : Int)) (g : GR B n ((K : Nat) : Int) 0 0 0 t b t' cs) (kF : ¬ (b = true ∧ t'.1 = 0) → ∀ h', h' 123 19 = ((t'.2.1 : Nat) : Int) → Fr [123, 140, 141, 142] h h' → (∀ k, (k < 18 ∨ 23 < k) → k ≠ 27 → k ≠ 28 → k ≠ 30 → h' 123 k = h 123 k) → Post (some (vI 0)) (mk h' τ)) (kT : b = true → t'.1 = 0 → ∀ h', h' 123 27 = ((cs.length : Nat) : Int) → h' 123 28 = ((lvs cs : Nat) : Int) → (∀ k, k < cs.length → h' 140 k = cs.getD k 0) → h' 123 23 = ((K : Nat) : Int) → Fr [123, 140, 141, 142] h h' → (∀ k, (k < 18 ∨ 23 < k) → k ≠ 27 → k ≠ 28 → k ≠ 30 → h' 123 k = h 123 k) → Post (some (vI 1)) (mk h' τ)) : Cj γ mX9_takesE d 0 0 [vA 123] (mk h τ) Post := by
  refine c_of (by decide) (Nat.le_of_ble_eq_true rfl) ?_
  show Aj γ mX9_takesE d 0 0 Post 0 [(0, vA 123)] [] (mk h τ)
  refine a_iconst dX9_takesE_0 ⟨by decide, by decide⟩ ?_
  refine a_istore_n (lv' := [(1, vI 0), (0, vA 123)]) dX9_takesE_1 rfl (by decide) rfl ?_
  refine a_iconst dX9_takesE_2 ⟨by decide, by decide⟩ ?_
  refine a_istore_n (lv' := [(2, vI 0), (1, vI 0), (0, vA 123)]) dX9_takesE_3 rfl (by decide) rfl ?_
  refine a_iconst dX9_takesE_4 ⟨by decide, by decide⟩ ?_
  refine a_istore_n (lv' := [(3, vI 1), (2, vI 0), (1, vI 0), (0, vA 123)]) dX9_takesE_5 rfl (by decide) rfl ?_
  refine a_aload_n (j := 3) dX9_takesE_6 rfl rfl (Nat.le_of_ble_eq_true rfl) ?_
  refine a_iconst dX9_takesE_7 ⟨by decide, by decide⟩ ?_
  refine b_put (a := 123) (v := vI 0) dX9_takesE_8 pwX9_265 (fun h => nomatch h) (by decide) rfl (by decide) rfl rfl (fit_int _) ?_
  show Aj γ mX9_takesE d 0 0 Post 11 [(3, vI 1), (2, vI 0), (1, vI 0), (0, vA 123)] [] (mk (up2 h 123 27 0) τ)
  refine a_aload_n (j := 3) dX9_takesE_11 rfl rfl (Nat.le_of_ble_eq_true rfl) ?_
  refine a_iconst dX9_takesE_12 ⟨by decide, by decide⟩ ?_
  refine b_put (a := 123) (v := vI 0) dX9_takesE_13 pwX9_271 (fun h => nomatch h) (by decide) rfl (by decide) rfl rfl (fit_int _) ?_
  show Aj γ mX9_takesE d 0 0 Post 16 [(3, vI 1), (2, vI 0), (1, vI 0), (0, vA 123)] [] (mk (up2 (up2 h 123 27 0) 123 28 0) τ)
  refine a_aload_n (j := 3) dX9_takesE_16 rfl rfl (Nat.le_of_ble_eq_true rfl) ?_
  refine a_iconst dX9_takesE_17 ⟨by decide, by decide⟩ ?_
  refine b_put (a := 123) (v := vI 0) dX9_takesE_18 pwX9_259 (fun h => nomatch h) (by decide) rfl (by decide) rfl rfl (fit_int _) ?_
  show Aj γ mX9_takesE d 0 0 Post 21 [(3, vI 1), (2, vI 0), (1, vI 0), (0, vA 123)] [] (mk (up2 (up2 (up2 h 123 27 0) 123 28 0) 123 30 0) τ)
  refine a_aload_n (j := 3) dX9_takesE_21 rfl rfl (Nat.le_of_ble_eq_true rfl) ?_
  refine b_getp (a := 123) (p := 142) dX9_takesE_22 fwX9_66 (by decide) rfl (by decide) rfl rfl ?_
  refine a_iconst dX9_takesE_25 ⟨by decide, by decide⟩ ?_
  refine a_iconst dX9_takesE_26 ⟨by decide, by decide⟩ ?_
  refine b_zastore (a := 142) (z := 0) 0 dX9_takesE_27 (by decide) rfl rfl (by decide) rfl (by decide) ⟨by decide, by decide⟩ ?_
  refine a_lv (lv' := [(3, vI 1), (2, vI 0), (1, vI 0), (0, vA 123)]) (by intro q hq; simp only [List.mem_cons, List.not_mem_nil, or_false] at hq ⊢; rcases hq with rfl | rfl | rfl | rfl <;> simp) ?_
  exact gr_top (SY_all (γ := γ) (d := d) (Post := Post) (τ := τ) (B := B) (h0 := h) hd hm hBr hK3) g (T := fun _ => false) rfl (fun hb h' W C o T r => kF hb h' r.1.2.2.2.1 r.2.2.2.2.2.1 r.2.2.2.2.2.2) (fun hb hz T' c p e hp => by
      have q := sy_end (γ := γ) (d := d) (Post := Post) (τ := τ) (B := B) (h0 := h) hd hm hBr hK3 (t := t') (p := p) (C := c) (T := T') hz hp (fun h' r => kT hb hz h' (by rw [← e]; exact r.2.1.2.1) (by rw [← e]; exact r.2.2.2.1) (by rw [← e]; exact r.2.1.2.2.2) r.2.2.1 r.2.2.2.2.2.1 r.2.2.2.2.2.2)
      exact q) (Nat.zero_le _) (fun x hx => absurd hx List.not_mem_nil) trivial (Nat.zero_le _) _ ⟨RTk_e rt (fun k h1 h2 => (up2_ne (by omega)).trans ((up2_ne (by omega)).trans ((up2_ne (by omega)).trans (up2_ne (by omega))))) ((up2_row (by decide)).trans ((up2_row (by decide)).trans ((up2_row (by decide)).trans (up2_row (by decide))))), ⟨(up2_ne (by omega)).trans up2_at, (up2_ne (by omega)).trans ((up2_ne (by omega)).trans ((up2_ne (by omega)).trans up2_at)), trivial, fun k hk => absurd hk (Nat.not_lt_zero _)⟩, ((up2_ne (by omega)).trans ((up2_ne (by omega)).trans ((up2_ne (by omega)).trans (up2_ne (by omega))))).trans eK, (up2_ne (by omega)).trans ((up2_ne (by omega)).trans up2_at), fun j hj => (by obtain rfl : j = 0 := (by omega); exact up2_at), Fr_u (by decide) (Fr_u (by decide) (Fr_u (by decide) (Fr_u (by decide) Fr_r))), fun k h1 h2 h3 h4 => (up2_ne (by omega)).trans ((up2_ne (by omega)).trans ((up2_ne (by omega)).trans (up2_ne (by omega))))⟩
