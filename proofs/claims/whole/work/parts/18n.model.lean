theorem l_copyAll {γ : GT} {d : Nat} {a b : Nat} {h : Nat → Nat → Int} {τ : List AC} {Post : Option AV → List AC → Prop} (hq : (124 ≤ a ∧ a ≤ 126) ∧ (124 ≤ b ∧ b ≤ 126) ∧ a ≠ b) (kQ : Post none (mk (upR h b (cpy (h a) (h b) 0 0 1545)) τ)) :
    ∀ (f i : Nat), i ≤ 1545 → 1545 < i + f → Aj γ mX9_copyAll d 0 0 Post 2 [(2, vI ((i : Nat) : Int)), (0, vA a), (1, vA b)] [] (mk (upR h b (cpy (h a) (h b) 0 0 i)) τ) := by
  intro f
  induction f with
  | zero => intro i h1 h2; omega
  | succ f ih =>
    intro i h1 h2
    have hka : kd a = (12, 1545) := by rcases (show a = 124 ∨ a = 125 ∨ a = 126 by omega) with rfl | rfl | rfl <;> rfl
    have hkb : kd b = (12, 1545) := by rcases (show b = 124 ∨ b = 125 ∨ b = 126 by omega) with rfl | rfl | rfl <;> rfl
    have hsa : ∀ k, sp a k = none := by rcases (show a = 124 ∨ a = 125 ∨ a = 126 by omega) with rfl | rfl | rfl <;> exact sp_nil rfl
    have hsb : ∀ k, sp b k = none := by rcases (show b = 124 ∨ b = 125 ∨ b = 126 by omega) with rfl | rfl | rfl <;> exact sp_nil rfl
    refine a_iload_n (j := 0) dX9_copyAll_2 rfl rfl ?_
    refine a_sipush dX9_copyAll_3 ⟨by decide, by decide, by decide⟩ ?_
    refine a_icmp_ge (tgt := 21) dX9_copyAll_6 (by decide) (fun c6_1 => ?_) (fun c6_1 => ?_)
    · exact a_vret dX9_copyAll_21 rfl (by obtain rfl : i = 1545 := (by omega); exact kQ)
    · refine a_aload_n (j := 2) dX9_copyAll_9 rfl rfl (Nat.le_of_ble_eq_true rfl) ?_
      refine a_iload_n (j := 0) dX9_copyAll_10 rfl rfl ?_
      refine a_aload_n (j := 1) dX9_copyAll_11 rfl rfl (Nat.le_of_ble_eq_true rfl) ?_
      refine a_iload_n (j := 0) dX9_copyAll_12 rfl rfl ?_
      refine b_iaload (a := a) (z := h a i) i dX9_copyAll_13 (by rcases hq with ⟨ha, hb, hab⟩; omega) hka rfl (by omega) (hsa _) (upR_ne (by omega)) (fun r13_2 => ?_)
      refine b_iastore (a := b) i dX9_copyAll_14 (by rcases hq with ⟨ha, hb, hab⟩; omega) hkb rfl (by omega) (hsb _) ?_
      refine a_iinc (j := 0) (z' := ((i + 1 : Nat) : Int)) (lv' := [(2, vI ((i + 1 : Nat) : Int)), (0, vA a), (1, vA b)]) dX9_copyAll_15 rfl (w_okN (by omega) (by omega) (by omega)) (by decide) rfl ?_
      refine a_goto (tgt := 2) dX9_copyAll_18 (by decide) ?_
      rw [up2_R, cpy_s]
      refine a_lv (lv' := [(2, vI (((i + 1) : Nat) : Int)), (0, vA a), (1, vA b)]) (by intro q hq; simp only [List.mem_cons, List.not_mem_nil, or_false] at hq ⊢; rcases hq with rfl | rfl | rfl <;> simp) (ih (i + 1) (by omega) (by omega))
theorem c_X9_copyAll {γ : GT} {d : Nat} {a b : Nat} {f g : Nat → Int} {h : Nat → Nat → Int} {τ : List AC} {Post : Option AV → List AC → Prop} (hd : 0 ≤ d) (hq : (124 ≤ a ∧ a ≤ 126) ∧ (124 ≤ b ∧ b ≤ 126) ∧ a ≠ b) (ef : h a = f) (eg : h b = g) (kQ : Post none (mk (upR h b (cpy f g 0 0 1545)) τ)) : Cj γ mX9_copyAll d 0 0 [vA a, vA b] (mk h τ) Post := by
  subst ef; subst eg
  refine c_of (by decide) (Nat.le_of_ble_eq_true rfl) ?_
  show Aj γ mX9_copyAll d 0 0 Post 0 [(0, vA a), (1, vA b)] [] (mk h τ)
  refine a_iconst dX9_copyAll_0 ⟨by decide, by decide⟩ ?_
  refine a_istore_n (lv' := [(2, vI 0), (0, vA a), (1, vA b)]) dX9_copyAll_1 rfl (by decide) rfl ?_
  have hl := l_copyAll (γ := γ) (d := d) (τ := τ) (Post := Post) hq kQ 1546 0 (by omega) (by omega)
  rw [cpy_0, upR_id rfl] at hl
  exact hl
set_option maxHeartbeats 8000000 in
theorem c_X9_keep {γ : GT} {d : Nat}  {h : Nat → Nat → Int} {τ : List AC} {Post : Option AV → List AC → Prop} (hd : 2 ≤ d) {f1 : Nat → Int} (r1 : h 124 = f1) {f2 : Nat → Int} (r2 : h 125 = f2) {v3 : Int} (e3 : h 124 5 = v3) (k1 : Post (some (vI v3)) (mk (up2 (upR h 125 (cpy f1 f2 0 0 1545)) 123 3 1) τ)) : Cj γ mX9_keep d 0 0 [vA 123] (mk h τ) Post := by
  refine c_of (by decide) (Nat.le_of_ble_eq_true rfl) ?_
  show Aj γ mX9_keep d 0 0 Post 0 [(0, vA 123)] [] (mk h τ)
  refine a_aload_n (j := 0) dX9_keep_0 rfl rfl (Nat.le_of_ble_eq_true rfl) ?_
  refine b_getp (a := 123) (p := 124) dX9_keep_1 fwX9_9 (by decide) rfl (by decide) rfl rfl ?_
  refine a_aload_n (j := 0) dX9_keep_4 rfl rfl (Nat.le_of_ble_eq_true rfl) ?_
  refine b_getp (a := 123) (p := 125) dX9_keep_5 fwX9_13 (by decide) rfl (by decide) rfl rfl ?_
  refine a_callS (d' := d - 1) (mc' := 0) (ms' := 0) (mc1 := 0) (ms1 := 0) (st := []) [vA 124, vA 125] dX9_keep_8 mwX9_copyAll lkX9_329 rfl (Nat.le_of_ble_eq_true rfl) (by omega) rfl rfl (c_X9_copyAll (f := f1) (g := f2) (by omega) (by decide) r1 r2 ?_)
  show Aj γ mX9_keep d 0 0 Post 11 [(0, vA 123)] [] (mk (upR h 125 (cpy f1 f2 0 0 1545)) τ)
  refine a_aload_n (j := 0) dX9_keep_11 rfl rfl (Nat.le_of_ble_eq_true rfl) ?_
  refine a_iconst dX9_keep_12 ⟨by decide, by decide⟩ ?_
  refine b_put (a := 123) (v := vI 1) dX9_keep_13 pwX9_326 (fun h => nomatch h) (by decide) rfl (by decide) rfl rfl (fit_bool (by first | exact Or.inl rfl | exact Or.inr rfl | omega)) ?_
  show Aj γ mX9_keep d 0 0 Post 16 [(0, vA 123)] [] (mk (up2 (upR h 125 (cpy f1 f2 0 0 1545)) 123 3 1) τ)
  refine a_aload_n (j := 0) dX9_keep_16 rfl rfl (Nat.le_of_ble_eq_true rfl) ?_
  refine b_getp (a := 123) (p := 124) dX9_keep_17 fwX9_9 (by decide) rfl (by decide) rfl rfl ?_
  refine a_iconst dX9_keep_20 ⟨by decide, by decide⟩ ?_
  refine b_iaload (a := 124) (z := v3) 5 dX9_keep_21 (by decide) rfl rfl (by decide) rfl ((up2_ne (by omega)).trans ((upR_ne (by omega)).trans e3)) (fun r21_1 => ?_)
  exact a_iret dX9_keep_22 rfl k1
set_option maxHeartbeats 8000000 in
theorem c_X9_back {γ : GT} {d : Nat}  {h : Nat → Nat → Int} {τ : List AC} {Post : Option AV → List AC → Prop} (hd : 2 ≤ d) {v1 : Int} (e1 : h 123 3 = v1) {f2 : Nat → Int} (r2 : h 125 = f2) {f3 : Nat → Int} (r3 : h 124 = f3) (k1 : (¬ v1 = 0) → Post (some (vI ((cpy f2 f3 0 0 1545) 5))) (mk (up2 (upR h 124 (cpy f2 f3 0 0 1545)) 123 4 0) τ)) (k2 : (v1 = 0) → Post (some (vI (-1000000002))) (mk h τ)) : Cj γ mX9_back d 0 0 [vA 123] (mk h τ) Post := by
  refine c_of (by decide) (Nat.le_of_ble_eq_true rfl) ?_
  show Aj γ mX9_back d 0 0 Post 0 [(0, vA 123)] [] (mk h τ)
  refine a_aload_n (j := 0) dX9_back_0 rfl rfl (Nat.le_of_ble_eq_true rfl) ?_
  refine b_get (a := 123) (z := v1) (t := 0) dX9_back_1 fwX9_326 (by decide) rfl (by decide) rfl rfl e1 ?_
  refine a_if_ne (tgt := 10) dX9_back_4 (by decide) (fun c4_1 => ?_) (fun c4_1 => ?_)
  · refine a_aload_n (j := 0) dX9_back_10 rfl rfl (Nat.le_of_ble_eq_true rfl) ?_
    refine b_getp (a := 123) (p := 125) dX9_back_11 fwX9_13 (by decide) rfl (by decide) rfl rfl ?_
    refine a_aload_n (j := 0) dX9_back_14 rfl rfl (Nat.le_of_ble_eq_true rfl) ?_
    refine b_getp (a := 123) (p := 124) dX9_back_15 fwX9_9 (by decide) rfl (by decide) rfl rfl ?_
    refine a_callS (d' := d - 1) (mc' := 0) (ms' := 0) (mc1 := 0) (ms1 := 0) (st := []) [vA 125, vA 124] dX9_back_18 mwX9_copyAll lkX9_329 rfl (Nat.le_of_ble_eq_true rfl) (by omega) rfl rfl (c_X9_copyAll (f := f2) (g := f3) (by omega) (by decide) r2 r3 ?_)
    show Aj γ mX9_back d 0 0 Post 21 [(0, vA 123)] [] (mk (upR h 124 (cpy f2 f3 0 0 1545)) τ)
    refine a_aload_n (j := 0) dX9_back_21 rfl rfl (Nat.le_of_ble_eq_true rfl) ?_
    refine a_iconst dX9_back_22 ⟨by decide, by decide⟩ ?_
    refine b_put (a := 123) (v := vI 0) dX9_back_23 pwX9_111 (fun h => nomatch h) (by decide) rfl (by decide) rfl rfl (fit_bool (by first | exact Or.inl rfl | exact Or.inr rfl | omega)) ?_
    show Aj γ mX9_back d 0 0 Post 26 [(0, vA 123)] [] (mk (up2 (upR h 124 (cpy f2 f3 0 0 1545)) 123 4 0) τ)
    refine a_aload_n (j := 0) dX9_back_26 rfl rfl (Nat.le_of_ble_eq_true rfl) ?_
    refine b_getp (a := 123) (p := 124) dX9_back_27 fwX9_9 (by decide) rfl (by decide) rfl rfl ?_
    refine a_iconst dX9_back_30 ⟨by decide, by decide⟩ ?_
    refine b_iaload (a := 124) (z := ((cpy f2 f3 0 0 1545) 5)) 5 dX9_back_31 (by decide) rfl rfl (by decide) rfl ((up2_ne (by omega)).trans upR_v) (fun r31_2 => ?_)
    exact a_iret dX9_back_32 rfl (k1 c4_1)
  · refine a_ldc (z := (-1000000002)) dX9_back_7 kwX9_185 ⟨by decide, by decide, by decide⟩ ?_
    exact a_iret dX9_back_9 rfl (k2 c4_1)
set_option maxHeartbeats 8000000 in
theorem c_X9_isLetter {γ : GT} {d : Nat} {k : Int} {h : Nat → Nat → Int} {τ : List AC} {Post : Option AV → List AC → Prop} (hd : 0 ≤ d) {v1 : Int} (e1 : h 123 17 = v1) {v2 : Int} (e2 : h 137 (Int.toNat k) = v2) (hT : 0 ≤ k ∧ 0 ≤ v1 ∧ v1 ≤ 96) (kT : k < v1 ∧ 97 ≤ v2 ∧ v2 ≤ 122 → Post (some (vI 1)) (mk h τ)) (kF : ¬ (k < v1 ∧ 97 ≤ v2 ∧ v2 ≤ 122) → Post (some (vI 0)) (mk h τ)) : Cj γ mX9_isLetter d 0 0 [vA 123, vI k] (mk h τ) Post := by
  refine c_of (by decide) (Nat.le_of_ble_eq_true rfl) ?_
  show Aj γ mX9_isLetter d 0 0 Post 0 [(0, vA 123), (1, vI k)] [] (mk h τ)
  refine a_iload_n (j := 1) dX9_isLetter_0 rfl rfl ?_
  refine a_aload_n (j := 0) dX9_isLetter_1 rfl rfl (Nat.le_of_ble_eq_true rfl) ?_
  refine b_get (a := 123) (z := v1) (t := 0) dX9_isLetter_2 fwX9_229 (by decide) rfl (by decide) rfl rfl e1 ?_
  refine a_icmp_ge (tgt := 34) dX9_isLetter_5 (by decide) (fun c5_1 => ?_) (fun c5_1 => ?_)
  · refine a_iconst dX9_isLetter_34 ⟨by decide, by decide⟩ ?_
    exact a_zret dX9_isLetter_35 rfl (by first | exact Or.inl rfl | exact Or.inr rfl | omega) (kF (by omega))
  · refine a_aload_n (j := 0) dX9_isLetter_8 rfl rfl (Nat.le_of_ble_eq_true rfl) ?_
    refine b_getp (a := 123) (p := 137) dX9_isLetter_9 fwX9_50 (by decide) rfl (by decide) rfl rfl ?_
    refine a_iload_n (j := 1) dX9_isLetter_12 rfl rfl ?_
    refine b_iaload (a := 137) (z := v2) (Int.toNat k) dX9_isLetter_13 (by decide) rfl (by omega) (by omega) (sp_nil rfl _) e2 (fun r13_2 => ?_)
    refine a_bipush dX9_isLetter_14 ⟨by decide, by decide, by decide⟩ ?_
    refine a_icmp_lt (tgt := 34) dX9_isLetter_16 (by decide) (fun c16_3 => ?_) (fun c16_3 => ?_)
    · refine a_iconst dX9_isLetter_34 ⟨by decide, by decide⟩ ?_
      exact a_zret dX9_isLetter_35 rfl (by first | exact Or.inl rfl | exact Or.inr rfl | omega) (kF (by omega))
    · refine a_aload_n (j := 0) dX9_isLetter_19 rfl rfl (Nat.le_of_ble_eq_true rfl) ?_
      refine b_getp (a := 123) (p := 137) dX9_isLetter_20 fwX9_50 (by decide) rfl (by decide) rfl rfl ?_
      refine a_iload_n (j := 1) dX9_isLetter_23 rfl rfl ?_
      refine b_iaload (a := 137) (z := v2) (Int.toNat k) dX9_isLetter_24 (by decide) rfl (by omega) (by omega) (sp_nil rfl _) e2 (fun r24_4 => ?_)
      refine a_bipush dX9_isLetter_25 ⟨by decide, by decide, by decide⟩ ?_
      refine a_icmp_gt (tgt := 34) dX9_isLetter_27 (by decide) (fun c27_5 => ?_) (fun c27_5 => ?_)
      · refine a_iconst dX9_isLetter_34 ⟨by decide, by decide⟩ ?_
        exact a_zret dX9_isLetter_35 rfl (by first | exact Or.inl rfl | exact Or.inr rfl | omega) (kF (by omega))
      · refine a_iconst dX9_isLetter_30 ⟨by decide, by decide⟩ ?_
        refine a_goto (tgt := 35) dX9_isLetter_31 (by decide) ?_
        exact a_zret dX9_isLetter_35 rfl (by first | exact Or.inl rfl | exact Or.inr rfl | omega) (kT (by omega))
set_option maxHeartbeats 8000000 in
theorem c_X9_isFigure {γ : GT} {d : Nat} {k : Int} {h : Nat → Nat → Int} {τ : List AC} {Post : Option AV → List AC → Prop} (hd : 0 ≤ d) {v1 : Int} (e1 : h 123 17 = v1) {v2 : Int} (e2 : h 137 (Int.toNat k) = v2) (hT : 0 ≤ k ∧ 0 ≤ v1 ∧ v1 ≤ 96) (kT : k < v1 ∧ 48 ≤ v2 ∧ v2 ≤ 57 → Post (some (vI 1)) (mk h τ)) (kF : ¬ (k < v1 ∧ 48 ≤ v2 ∧ v2 ≤ 57) → Post (some (vI 0)) (mk h τ)) : Cj γ mX9_isFigure d 0 0 [vA 123, vI k] (mk h τ) Post := by
  refine c_of (by decide) (Nat.le_of_ble_eq_true rfl) ?_
  show Aj γ mX9_isFigure d 0 0 Post 0 [(0, vA 123), (1, vI k)] [] (mk h τ)
  refine a_iload_n (j := 1) dX9_isFigure_0 rfl rfl ?_
  refine a_aload_n (j := 0) dX9_isFigure_1 rfl rfl (Nat.le_of_ble_eq_true rfl) ?_
  refine b_get (a := 123) (z := v1) (t := 0) dX9_isFigure_2 fwX9_229 (by decide) rfl (by decide) rfl rfl e1 ?_
  refine a_icmp_ge (tgt := 34) dX9_isFigure_5 (by decide) (fun c5_1 => ?_) (fun c5_1 => ?_)
  · refine a_iconst dX9_isFigure_34 ⟨by decide, by decide⟩ ?_
    exact a_zret dX9_isFigure_35 rfl (by first | exact Or.inl rfl | exact Or.inr rfl | omega) (kF (by omega))
  · refine a_aload_n (j := 0) dX9_isFigure_8 rfl rfl (Nat.le_of_ble_eq_true rfl) ?_
    refine b_getp (a := 123) (p := 137) dX9_isFigure_9 fwX9_50 (by decide) rfl (by decide) rfl rfl ?_
    refine a_iload_n (j := 1) dX9_isFigure_12 rfl rfl ?_
    refine b_iaload (a := 137) (z := v2) (Int.toNat k) dX9_isFigure_13 (by decide) rfl (by omega) (by omega) (sp_nil rfl _) e2 (fun r13_2 => ?_)
    refine a_bipush dX9_isFigure_14 ⟨by decide, by decide, by decide⟩ ?_
    refine a_icmp_lt (tgt := 34) dX9_isFigure_16 (by decide) (fun c16_3 => ?_) (fun c16_3 => ?_)
    · refine a_iconst dX9_isFigure_34 ⟨by decide, by decide⟩ ?_
      exact a_zret dX9_isFigure_35 rfl (by first | exact Or.inl rfl | exact Or.inr rfl | omega) (kF (by omega))
    · refine a_aload_n (j := 0) dX9_isFigure_19 rfl rfl (Nat.le_of_ble_eq_true rfl) ?_
      refine b_getp (a := 123) (p := 137) dX9_isFigure_20 fwX9_50 (by decide) rfl (by decide) rfl rfl ?_
      refine a_iload_n (j := 1) dX9_isFigure_23 rfl rfl ?_
      refine b_iaload (a := 137) (z := v2) (Int.toNat k) dX9_isFigure_24 (by decide) rfl (by omega) (by omega) (sp_nil rfl _) e2 (fun r24_4 => ?_)
      refine a_bipush dX9_isFigure_25 ⟨by decide, by decide, by decide⟩ ?_
      refine a_icmp_gt (tgt := 34) dX9_isFigure_27 (by decide) (fun c27_5 => ?_) (fun c27_5 => ?_)
      · refine a_iconst dX9_isFigure_34 ⟨by decide, by decide⟩ ?_
        exact a_zret dX9_isFigure_35 rfl (by first | exact Or.inl rfl | exact Or.inr rfl | omega) (kF (by omega))
      · refine a_iconst dX9_isFigure_30 ⟨by decide, by decide⟩ ?_
        refine a_goto (tgt := 35) dX9_isFigure_31 (by decide) ?_
        exact a_zret dX9_isFigure_35 rfl (by first | exact Or.inl rfl | exact Or.inr rfl | omega) (kT (by omega))
set_option maxHeartbeats 8000000 in
theorem c_X9_draw {γ : GT} {d : Nat}  {h : Nat → Nat → Int} {τ : List AC} {Post : Option AV → List AC → Prop} (hd : 0 ≤ d) {v1 : Int} (e1 : h 124 0 = v1) (kQ : Post (some (vI (ushr32 (w32 ((w32 (v1 * 1103515245)) + 12345)) 8))) (mk (up2 h 124 0 (w32 ((w32 (v1 * 1103515245)) + 12345))) τ)) : Cj γ mX9_draw d 0 0 [vA 123] (mk h τ) Post := by
  refine c_of (by decide) (Nat.le_of_ble_eq_true rfl) ?_
  show Aj γ mX9_draw d 0 0 Post 0 [(0, vA 123)] [] (mk h τ)
  refine a_aload_n (j := 0) dX9_draw_0 rfl rfl (Nat.le_of_ble_eq_true rfl) ?_
  refine b_getp (a := 123) (p := 124) dX9_draw_1 fwX9_9 (by decide) rfl (by decide) rfl rfl ?_
  refine a_iconst dX9_draw_4 ⟨by decide, by decide⟩ ?_
  refine a_aload_n (j := 0) dX9_draw_5 rfl rfl (Nat.le_of_ble_eq_true rfl) ?_
  refine b_getp (a := 123) (p := 124) dX9_draw_6 fwX9_9 (by decide) rfl (by decide) rfl rfl ?_
  refine a_iconst dX9_draw_9 ⟨by decide, by decide⟩ ?_
  refine b_iaload (a := 124) (z := v1) 0 dX9_draw_10 (by decide) rfl rfl (by decide) rfl e1 (fun r10_1 => ?_)
  refine a_ldcw (z := 1103515245) dX9_draw_11 kwX9_299 ⟨by decide, by decide, by decide⟩ ?_
  refine a_imul (z := (w32 (v1 * 1103515245))) dX9_draw_14 rfl ?_
  refine a_sipush dX9_draw_15 ⟨by decide, by decide, by decide⟩ ?_
  refine a_iadd (z := (w32 ((w32 (v1 * 1103515245)) + 12345))) dX9_draw_18 rfl ?_
  refine b_iastore (a := 124) 0 dX9_draw_19 (by decide) rfl rfl (by decide) rfl ?_
  refine a_aload_n (j := 0) dX9_draw_20 rfl rfl (Nat.le_of_ble_eq_true rfl) ?_
  refine b_getp (a := 123) (p := 124) dX9_draw_21 fwX9_9 (by decide) rfl (by decide) rfl rfl ?_
  refine a_iconst dX9_draw_24 ⟨by decide, by decide⟩ ?_
  refine b_iaload (a := 124) (z := (w32 ((w32 (v1 * 1103515245)) + 12345))) 0 dX9_draw_25 (by decide) rfl rfl (by decide) rfl up2_at (fun r25_2 => ?_)
  refine a_bipush dX9_draw_26 ⟨by decide, by decide, by decide⟩ ?_
  refine a_iushr (z := (ushr32 (w32 ((w32 (v1 * 1103515245)) + 12345)) 8)) dX9_draw_28 rfl ?_
  exact a_iret dX9_draw_29 rfl (post_v kQ (by rfl))
set_option maxHeartbeats 8000000 in
theorem c_X7_draw {γ : GT} {d : Nat} {w : Nat} {h : Nat → Nat → Int} {τ : List AC} {Post : Option AV → List AC → Prop} (hd : 0 ≤ d) (hw : isWd w) {v1 : Int} (e1 : h w 15 = v1) (kQ : Post (some (vI (ushr32 (w32 ((w32 (v1 * 1103515245)) + 12345)) 8))) (mk (up2 h w 15 (w32 ((w32 (v1 * 1103515245)) + 12345))) τ)) : Cj γ mX7_draw d 0 0 [vA w] (mk h τ) Post := by
  refine c_of (by decide) (Nat.le_of_ble_eq_true rfl) ?_
  show Aj γ mX7_draw d 0 0 Post 0 [(0, vA w)] [] (mk h τ)
  refine a_aload_n (j := 0) dX7_draw_0 rfl rfl (Nat.le_of_ble_eq_true rfl) ?_
  refine a_aload_n (j := 0) dX7_draw_1 rfl rfl (Nat.le_of_ble_eq_true rfl) ?_
  refine b_get (a := w) (z := v1) (t := 0) dX7_draw_2 fwX7_40 (by rcases hw with rfl | rfl <;> decide) (by rcases hw with rfl | rfl <;> rfl) (by decide) (by rcases hw with rfl | rfl <;> rfl) rfl e1 ?_
  refine a_ldc (z := 1103515245) dX7_draw_5 kwX7_96 ⟨by decide, by decide, by decide⟩ ?_
  refine a_imul (z := (w32 (v1 * 1103515245))) dX7_draw_7 rfl ?_
  refine a_sipush dX7_draw_8 ⟨by decide, by decide, by decide⟩ ?_
  refine a_iadd (z := (w32 ((w32 (v1 * 1103515245)) + 12345))) dX7_draw_11 rfl ?_
  refine b_put (a := w) (v := vI (w32 ((w32 (v1 * 1103515245)) + 12345))) dX7_draw_12 pwX7_40 (fun h => nomatch h) (by rcases hw with rfl | rfl <;> decide) (by rcases hw with rfl | rfl <;> rfl) (by decide) (by rcases hw with rfl | rfl <;> rfl) rfl (fit_int _) ?_
  show Aj γ mX7_draw d 0 0 Post 15 [(0, vA w)] [] (mk (up2 h w 15 (w32 ((w32 (v1 * 1103515245)) + 12345))) τ)
  refine a_aload_n (j := 0) dX7_draw_15 rfl rfl (Nat.le_of_ble_eq_true rfl) ?_
  refine b_get (a := w) (z := (w32 ((w32 (v1 * 1103515245)) + 12345))) (t := 0) dX7_draw_16 fwX7_40 (by rcases hw with rfl | rfl <;> decide) (by rcases hw with rfl | rfl <;> rfl) (by decide) (by rcases hw with rfl | rfl <;> rfl) rfl up2_at ?_
  refine a_bipush dX7_draw_19 ⟨by decide, by decide, by decide⟩ ?_
  refine a_iushr (z := (ushr32 (w32 ((w32 (v1 * 1103515245)) + 12345)) 8)) dX7_draw_21 rfl ?_
  exact a_iret dX7_draw_22 rfl (post_v kQ (by rfl))
set_option maxHeartbeats 8000000 in
theorem c_X9_ask {γ : GT} {d : Nat} {s k : Int} {h : Nat → Nat → Int} {τ : List AC} {Post : Option AV → List AC → Prop} (hd : 2 ≤ d) {v1 : Int} (e1 : h 148 (Int.toNat s) = v1) {v2 : Int} (e2 : h 149 (Int.toNat s) = v2) {v3 : Int} (e3 : h 150 (Int.toNat s) = v3) (k1 : (0 ≤ s ∧ s ≤ 4) → (0 ≤ k ∧ k ≤ 5) → (¬ v1 = 0) → (¬ v1 = 1) → Post (some (vI (-1000000012))) (mk h τ)) (k2 : (0 ≤ s ∧ s ≤ 4) → (0 ≤ k ∧ k ≤ 5) → (¬ v1 = 0) → (v1 = 1) → ((k = 0 ∨ v2 = k ∨ (k = 1 ∧ v2 = 3) ∨ (k = 2 ∧ v2 = 4))) → Post (some (vI v3)) (mk h τ)) (k3 : (0 ≤ s ∧ s ≤ 4) → (0 ≤ k ∧ k ≤ 5) → (¬ v1 = 0) → (v1 = 1) → (¬ ((k = 0 ∨ v2 = k ∨ (k = 1 ∧ v2 = 3) ∨ (k = 2 ∧ v2 = 4)))) → Post (some (vI (-1000000012))) (mk h τ)) (k4 : (0 ≤ s ∧ s ≤ 4) → (0 ≤ k ∧ k ≤ 5) → (v1 = 0) → Post (some (vI (-1000000011))) (mk h τ)) (k5 : (0 ≤ s ∧ s ≤ 4) → (¬ (0 ≤ k ∧ k ≤ 5)) → Post (some (vI (-1000000001))) (mk h τ)) (k6 : (¬ (0 ≤ s ∧ s ≤ 4)) → Post (some (vI (-1000000001))) (mk h τ)) : Cj γ mX9_ask d 0 0 [vA 123, vI s, vI k] (mk h τ) Post := by
  refine c_of (by decide) (Nat.le_of_ble_eq_true rfl) ?_
  show Aj γ mX9_ask d 0 0 Post 0 [(0, vA 123), (1, vI s), (2, vI k)] [] (mk h τ)
  refine a_iload_n (j := 1) dX9_ask_0 rfl rfl ?_
  refine a_callS (d' := d - 1) (mc' := 0) (ms' := 0) (mc1 := 0) (ms1 := 0) (st := []) [vI s] dX9_ask_1 mwX9_isSlot lkX9_320 rfl (Nat.le_of_ble_eq_true rfl) (by omega) rfl rfl (c_X9_isSlot  (by omega)    (fun t1_1 => ?_) (fun t1_1 => ?_))
  · have t1_1 : 0 ≤ s ∧ s ≤ 4 := t1_1
    show Aj γ mX9_ask d 0 0 Post 4 [(0, vA 123), (1, vI s), (2, vI k)] [vI 1] (mk h τ)
    refine a_if_eq (tgt := 16) dX9_ask_4 (by decide) (fun c => absurd c (by decide)) (fun _ => ?_)
    refine a_iload_n (j := 2) dX9_ask_7 rfl rfl ?_
    refine a_iconst dX9_ask_8 ⟨by decide, by decide⟩ ?_
    refine a_iconst dX9_ask_9 ⟨by decide, by decide⟩ ?_
    refine a_callS (d' := d - 1) (mc' := 0) (ms' := 0) (mc1 := 0) (ms1 := 0) (st := []) [vI k, vI 0, vI 5] dX9_ask_10 mwX9_in lkX9_103 rfl (Nat.le_of_ble_eq_true rfl) (by omega) rfl rfl (c_X9_in  (by omega)    (fun t10_2 => ?_) (fun t10_2 => ?_))
    · have t10_2 : 0 ≤ k ∧ k ≤ 5 := t10_2
      show Aj γ mX9_ask d 0 0 Post 13 [(0, vA 123), (1, vI s), (2, vI k)] [vI 1] (mk h τ)
      refine a_if_ne (tgt := 19) dX9_ask_13 (by decide) (fun _ => ?_) (fun c => absurd c (by decide))
      refine a_aload_n (j := 0) dX9_ask_19 rfl rfl (Nat.le_of_ble_eq_true rfl) ?_
      refine b_getp (a := 123) (p := 148) dX9_ask_20 fwX9_85 (by decide) rfl (by decide) rfl rfl ?_
      refine a_iload_n (j := 1) dX9_ask_23 rfl rfl ?_
      refine b_iaload (a := 148) (z := v1) (Int.toNat s) dX9_ask_24 (by decide) rfl (by omega) (by omega) (sp_nil rfl _) e1 (fun r24_3 => ?_)
      refine a_if_ne (tgt := 32) dX9_ask_25 (by decide) (fun c25_4 => ?_) (fun c25_4 => ?_)
      · refine a_aload_n (j := 0) dX9_ask_32 rfl rfl (Nat.le_of_ble_eq_true rfl) ?_
        refine b_getp (a := 123) (p := 148) dX9_ask_33 fwX9_85 (by decide) rfl (by decide) rfl rfl ?_
        refine a_iload_n (j := 1) dX9_ask_36 rfl rfl ?_
        refine b_iaload (a := 148) (z := v1) (Int.toNat s) dX9_ask_37 (by decide) rfl (by omega) (by omega) (sp_nil rfl _) e1 (fun r37_5 => ?_)
        refine a_iconst dX9_ask_38 ⟨by decide, by decide⟩ ?_
        refine a_icmp_ne (tgt := 64) dX9_ask_39 (by decide) (fun c39_6 => ?_) (fun c39_6 => ?_)
        · refine a_ldc (z := (-1000000012)) dX9_ask_64 kwX9_171 ⟨by decide, by decide, by decide⟩ ?_
          exact a_iret dX9_ask_66 rfl (k1 t1_1 t10_2 c25_4 c39_6)
        · refine a_aload_n (j := 0) dX9_ask_42 rfl rfl (Nat.le_of_ble_eq_true rfl) ?_
          refine b_getp (a := 123) (p := 149) dX9_ask_43 fwX9_88 (by decide) rfl (by decide) rfl rfl ?_
          refine a_iload_n (j := 1) dX9_ask_46 rfl rfl ?_
          refine b_iaload (a := 149) (z := v2) (Int.toNat s) dX9_ask_47 (by decide) rfl (by omega) (by omega) (sp_nil rfl _) e2 (fun r47_7 => ?_)
          refine a_iload_n (j := 2) dX9_ask_48 rfl rfl ?_
          refine a_callS (d' := d - 1) (mc' := 0) (ms' := 0) (mc1 := 0) (ms1 := 0) (st := []) [vI v2, vI k] dX9_ask_49 mwX9_isUnder lkX9_167 rfl (Nat.le_of_ble_eq_true rfl) (by omega) rfl rfl (c_X9_isUnder  (by omega)    (fun t49_8 => ?_) (fun t49_8 => ?_))
          · have t49_8 : (k = 0 ∨ v2 = k ∨ (k = 1 ∧ v2 = 3) ∨ (k = 2 ∧ v2 = 4)) := t49_8
            show Aj γ mX9_ask d 0 0 Post 52 [(0, vA 123), (1, vI s), (2, vI k)] [vI 1] (mk h τ)
            refine a_if_eq (tgt := 64) dX9_ask_52 (by decide) (fun c => absurd c (by decide)) (fun _ => ?_)
            refine a_aload_n (j := 0) dX9_ask_55 rfl rfl (Nat.le_of_ble_eq_true rfl) ?_
            refine b_getp (a := 123) (p := 150) dX9_ask_56 fwX9_91 (by decide) rfl (by decide) rfl rfl ?_
            refine a_iload_n (j := 1) dX9_ask_59 rfl rfl ?_
            refine b_iaload (a := 150) (z := v3) (Int.toNat s) dX9_ask_60 (by decide) rfl (by omega) (by omega) (sp_nil rfl _) e3 (fun r60_9 => ?_)
            refine a_goto (tgt := 66) dX9_ask_61 (by decide) ?_
            exact a_iret dX9_ask_66 rfl (k2 t1_1 t10_2 c25_4 c39_6 t49_8)
          · have t49_8 : ¬ ((k = 0 ∨ v2 = k ∨ (k = 1 ∧ v2 = 3) ∨ (k = 2 ∧ v2 = 4))) := t49_8
            show Aj γ mX9_ask d 0 0 Post 52 [(0, vA 123), (1, vI s), (2, vI k)] [vI 0] (mk h τ)
            refine a_if_eq (tgt := 64) dX9_ask_52 (by decide) (fun _ => ?_) (fun c => absurd c (by decide))
            refine a_ldc (z := (-1000000012)) dX9_ask_64 kwX9_171 ⟨by decide, by decide, by decide⟩ ?_
            exact a_iret dX9_ask_66 rfl (k3 t1_1 t10_2 c25_4 c39_6 t49_8)
      · refine a_ldcw (z := (-1000000011)) dX9_ask_28 kwX9_316 ⟨by decide, by decide, by decide⟩ ?_
        exact a_iret dX9_ask_31 rfl (k4 t1_1 t10_2 c25_4)
    · have t10_2 : ¬ (0 ≤ k ∧ k ≤ 5) := t10_2
      show Aj γ mX9_ask d 0 0 Post 13 [(0, vA 123), (1, vI s), (2, vI k)] [vI 0] (mk h τ)
      refine a_if_ne (tgt := 19) dX9_ask_13 (by decide) (fun c => absurd c (by decide)) (fun _ => ?_)
      refine a_ldc (z := (-1000000001)) dX9_ask_16 kwX9_146 ⟨by decide, by decide, by decide⟩ ?_
      exact a_iret dX9_ask_18 rfl (k5 t1_1 t10_2)
  · have t1_1 : ¬ (0 ≤ s ∧ s ≤ 4) := t1_1
    show Aj γ mX9_ask d 0 0 Post 4 [(0, vA 123), (1, vI s), (2, vI k)] [vI 0] (mk h τ)
    refine a_if_eq (tgt := 16) dX9_ask_4 (by decide) (fun _ => ?_) (fun c => absurd c (by decide))
    refine a_ldc (z := (-1000000001)) dX9_ask_16 kwX9_146 ⟨by decide, by decide, by decide⟩ ?_
    exact a_iret dX9_ask_18 rfl (k6 t1_1)
set_option maxHeartbeats 8000000 in
theorem c_X9_rest {γ : GT} {d : Nat} {s n : Int} {h : Nat → Nat → Int} {τ : List AC} {Post : Option AV → List AC → Prop} (hd : 2 ≤ d) {v1 : Int} (e1 : h 148 (Int.toNat s) = v1) {v2 : Int} (e2 : h 149 (Int.toNat s) = v2) (k1 : (0 ≤ s ∧ s ≤ 4) → (¬ v1 = 0) → (v1 = 3) → (¬ n = 0) → (¬ n = (-1)) → Post (some (vI (w32 (Int.tmod v2 n)))) (mk h τ)) (k2 : (0 ≤ s ∧ s ≤ 4) → (¬ v1 = 0) → (v1 = 3) → (¬ n = 0) → (n = (-1)) → Post (some (vI 0)) (mk h τ)) (k3 : (0 ≤ s ∧ s ≤ 4) → (¬ v1 = 0) → (v1 = 3) → (n = 0) → Post (some (vI (-1000000002))) (mk h τ)) (k4 : (0 ≤ s ∧ s ≤ 4) → (¬ v1 = 0) → (¬ v1 = 3) → Post (some (vI (-1000000012))) (mk h τ)) (k5 : (0 ≤ s ∧ s ≤ 4) → (v1 = 0) → Post (some (vI (-1000000011))) (mk h τ)) (k6 : (¬ (0 ≤ s ∧ s ≤ 4)) → Post (some (vI (-1000000001))) (mk h τ)) : Cj γ mX9_rest d 0 0 [vA 123, vI s, vI n] (mk h τ) Post := by
  refine c_of (by decide) (Nat.le_of_ble_eq_true rfl) ?_
  show Aj γ mX9_rest d 0 0 Post 0 [(0, vA 123), (1, vI s), (2, vI n)] [] (mk h τ)
  refine a_iload_n (j := 1) dX9_rest_0 rfl rfl ?_
  refine a_callS (d' := d - 1) (mc' := 0) (ms' := 0) (mc1 := 0) (ms1 := 0) (st := []) [vI s] dX9_rest_1 mwX9_isSlot lkX9_320 rfl (Nat.le_of_ble_eq_true rfl) (by omega) rfl rfl (c_X9_isSlot  (by omega)    (fun t1_1 => ?_) (fun t1_1 => ?_))
  · have t1_1 : 0 ≤ s ∧ s ≤ 4 := t1_1
    show Aj γ mX9_rest d 0 0 Post 4 [(0, vA 123), (1, vI s), (2, vI n)] [vI 1] (mk h τ)
    refine a_if_ne (tgt := 10) dX9_rest_4 (by decide) (fun _ => ?_) (fun c => absurd c (by decide))
    refine a_aload_n (j := 0) dX9_rest_10 rfl rfl (Nat.le_of_ble_eq_true rfl) ?_
    refine b_getp (a := 123) (p := 148) dX9_rest_11 fwX9_85 (by decide) rfl (by decide) rfl rfl ?_
    refine a_iload_n (j := 1) dX9_rest_14 rfl rfl ?_
    refine b_iaload (a := 148) (z := v1) (Int.toNat s) dX9_rest_15 (by decide) rfl (by omega) (by omega) (sp_nil rfl _) e1 (fun r15_2 => ?_)
    refine a_if_ne (tgt := 23) dX9_rest_16 (by decide) (fun c16_3 => ?_) (fun c16_3 => ?_)
    · refine a_aload_n (j := 0) dX9_rest_23 rfl rfl (Nat.le_of_ble_eq_true rfl) ?_
      refine b_getp (a := 123) (p := 148) dX9_rest_24 fwX9_85 (by decide) rfl (by decide) rfl rfl ?_
      refine a_iload_n (j := 1) dX9_rest_27 rfl rfl ?_
      refine b_iaload (a := 148) (z := v1) (Int.toNat s) dX9_rest_28 (by decide) rfl (by omega) (by omega) (sp_nil rfl _) e1 (fun r28_4 => ?_)
      refine a_iconst dX9_rest_29 ⟨by decide, by decide⟩ ?_
      refine a_icmp_eq (tgt := 36) dX9_rest_30 (by decide) (fun c30_5 => ?_) (fun c30_5 => ?_)
      · refine a_iload_n (j := 2) dX9_rest_36 rfl rfl ?_
        refine a_if_ne (tgt := 45) dX9_rest_37 (by decide) (fun c37_6 => ?_) (fun c37_6 => ?_)
        · refine a_iload_n (j := 2) dX9_rest_45 rfl rfl ?_
          refine a_iconst dX9_rest_46 ⟨by decide, by decide⟩ ?_
          refine a_icmp_ne (tgt := 54) dX9_rest_47 (by decide) (fun c47_7 => ?_) (fun c47_7 => ?_)
          · refine a_aload_n (j := 0) dX9_rest_54 rfl rfl (Nat.le_of_ble_eq_true rfl) ?_
            refine b_getp (a := 123) (p := 149) dX9_rest_55 fwX9_88 (by decide) rfl (by decide) rfl rfl ?_
            refine a_iload_n (j := 1) dX9_rest_58 rfl rfl ?_
            refine b_iaload (a := 149) (z := v2) (Int.toNat s) dX9_rest_59 (by decide) rfl (by omega) (by omega) (sp_nil rfl _) e2 (fun r59_8 => ?_)
            refine a_iload_n (j := 2) dX9_rest_60 rfl rfl ?_
            refine a_irem (z := (w32 (Int.tmod v2 n))) dX9_rest_61 (by omega) rfl ?_
            exact a_iret dX9_rest_62 rfl (k1 t1_1 c16_3 c30_5 c37_6 c47_7)
          · refine a_iconst dX9_rest_50 ⟨by decide, by decide⟩ ?_
            refine a_goto (tgt := 62) dX9_rest_51 (by decide) ?_
            exact a_iret dX9_rest_62 rfl (k2 t1_1 c16_3 c30_5 c37_6 c47_7)
        · refine a_ldc (z := (-1000000002)) dX9_rest_40 kwX9_185 ⟨by decide, by decide, by decide⟩ ?_
          refine a_goto (tgt := 62) dX9_rest_42 (by decide) ?_
          exact a_iret dX9_rest_62 rfl (k3 t1_1 c16_3 c30_5 c37_6)
      · refine a_ldc (z := (-1000000012)) dX9_rest_33 kwX9_171 ⟨by decide, by decide, by decide⟩ ?_
        exact a_iret dX9_rest_35 rfl (k4 t1_1 c16_3 c30_5)
    · refine a_ldcw (z := (-1000000011)) dX9_rest_19 kwX9_316 ⟨by decide, by decide, by decide⟩ ?_
      exact a_iret dX9_rest_22 rfl (k5 t1_1 c16_3)
  · have t1_1 : ¬ (0 ≤ s ∧ s ≤ 4) := t1_1
    show Aj γ mX9_rest d 0 0 Post 4 [(0, vA 123), (1, vI s), (2, vI n)] [vI 0] (mk h τ)
    refine a_if_ne (tgt := 10) dX9_rest_4 (by decide) (fun c => absurd c (by decide)) (fun _ => ?_)
    refine a_ldc (z := (-1000000001)) dX9_rest_7 kwX9_146 ⟨by decide, by decide, by decide⟩ ?_
    exact a_iret dX9_rest_9 rfl (k6 t1_1)
set_option maxHeartbeats 8000000 in
theorem c_X9_item {γ : GT} {d : Nat} {s p : Int} {h : Nat → Nat → Int} {τ : List AC} {Post : Option AV → List AC → Prop} (hd : 2 ≤ d) {v1 : Int} (e1 : h 148 (Int.toNat s) = v1) {v2 : Int} (e2 : h 149 (Int.toNat s) = v2) {v3 : Int} (e3 : h 151 (Int.toNat ((24 * s) + p)) = v3) (hZ : Ip (0 ≤ s ∧ s ≤ 4 ∧ v1 = 2) (0 ≤ v2 ∧ v2 ≤ 24)) (k1 : (0 ≤ s ∧ s ≤ 4) → (¬ v1 = 0) → (v1 = 2) → (0 ≤ p ∧ p ≤ (v2 - 1)) → (¬ v3 = (-1000000005)) → Post (some (vI v3)) (mk h τ)) (k2 : (0 ≤ s ∧ s ≤ 4) → (¬ v1 = 0) → (v1 = 2) → (0 ≤ p ∧ p ≤ (v2 - 1)) → (v3 = (-1000000005)) → Post (some (vI (-1000000012))) (mk h τ)) (k3 : (0 ≤ s ∧ s ≤ 4) → (¬ v1 = 0) → (v1 = 2) → (¬ (0 ≤ p ∧ p ≤ (v2 - 1))) → Post (some (vI (-1000000013))) (mk h τ)) (k4 : (0 ≤ s ∧ s ≤ 4) → (¬ v1 = 0) → (¬ v1 = 2) → Post (some (vI (-1000000012))) (mk h τ)) (k5 : (0 ≤ s ∧ s ≤ 4) → (v1 = 0) → Post (some (vI (-1000000011))) (mk h τ)) (k6 : (¬ (0 ≤ s ∧ s ≤ 4)) → Post (some (vI (-1000000001))) (mk h τ)) : Cj γ mX9_item d 0 0 [vA 123, vI s, vI p] (mk h τ) Post := by
  refine c_of (by decide) (Nat.le_of_ble_eq_true rfl) ?_
  show Aj γ mX9_item d 0 0 Post 0 [(0, vA 123), (1, vI s), (2, vI p)] [] (mk h τ)
  refine a_iload_n (j := 1) dX9_item_0 rfl rfl ?_
  refine a_callS (d' := d - 1) (mc' := 0) (ms' := 0) (mc1 := 0) (ms1 := 0) (st := []) [vI s] dX9_item_1 mwX9_isSlot lkX9_320 rfl (Nat.le_of_ble_eq_true rfl) (by omega) rfl rfl (c_X9_isSlot  (by omega)    (fun t1_1 => ?_) (fun t1_1 => ?_))
  · have t1_1 : 0 ≤ s ∧ s ≤ 4 := t1_1
    show Aj γ mX9_item d 0 0 Post 4 [(0, vA 123), (1, vI s), (2, vI p)] [vI 1] (mk h τ)
    refine a_if_ne (tgt := 10) dX9_item_4 (by decide) (fun _ => ?_) (fun c => absurd c (by decide))
    refine a_aload_n (j := 0) dX9_item_10 rfl rfl (Nat.le_of_ble_eq_true rfl) ?_
    refine b_getp (a := 123) (p := 148) dX9_item_11 fwX9_85 (by decide) rfl (by decide) rfl rfl ?_
    refine a_iload_n (j := 1) dX9_item_14 rfl rfl ?_
    refine b_iaload (a := 148) (z := v1) (Int.toNat s) dX9_item_15 (by decide) rfl (by omega) (by omega) (sp_nil rfl _) e1 (fun r15_2 => ?_)
    refine a_if_ne (tgt := 23) dX9_item_16 (by decide) (fun c16_3 => ?_) (fun c16_3 => ?_)
    · refine a_aload_n (j := 0) dX9_item_23 rfl rfl (Nat.le_of_ble_eq_true rfl) ?_
      refine b_getp (a := 123) (p := 148) dX9_item_24 fwX9_85 (by decide) rfl (by decide) rfl rfl ?_
      refine a_iload_n (j := 1) dX9_item_27 rfl rfl ?_
      refine b_iaload (a := 148) (z := v1) (Int.toNat s) dX9_item_28 (by decide) rfl (by omega) (by omega) (sp_nil rfl _) e1 (fun r28_4 => ?_)
      refine a_iconst dX9_item_29 ⟨by decide, by decide⟩ ?_
      refine a_icmp_eq (tgt := 36) dX9_item_30 (by decide) (fun c30_5 => ?_) (fun c30_5 => ?_)
      · refine a_iload_n (j := 2) dX9_item_36 rfl rfl ?_
        refine a_iconst dX9_item_37 ⟨by decide, by decide⟩ ?_
        refine a_aload_n (j := 0) dX9_item_38 rfl rfl (Nat.le_of_ble_eq_true rfl) ?_
        have hZ := hZ (by omega)
        refine b_getp (a := 123) (p := 149) dX9_item_39 fwX9_88 (by decide) rfl (by decide) rfl rfl ?_
        refine a_iload_n (j := 1) dX9_item_42 rfl rfl ?_
        refine b_iaload (a := 149) (z := v2) (Int.toNat s) dX9_item_43 (by decide) rfl (by omega) (by omega) (sp_nil rfl _) e2 (fun r43_6 => ?_)
        refine a_iconst dX9_item_44 ⟨by decide, by decide⟩ ?_
        refine a_isub (z := (v2 - 1)) dX9_item_45 (w_ok (by omega) (by omega)) ?_
        refine a_callS (d' := d - 1) (mc' := 0) (ms' := 0) (mc1 := 0) (ms1 := 0) (st := []) [vI p, vI 0, vI (v2 - 1)] dX9_item_46 mwX9_in lkX9_103 rfl (Nat.le_of_ble_eq_true rfl) (by omega) rfl rfl (c_X9_in  (by omega)    (fun t46_7 => ?_) (fun t46_7 => ?_))
        · have t46_7 : 0 ≤ p ∧ p ≤ (v2 - 1) := t46_7
          show Aj γ mX9_item d 0 0 Post 49 [(0, vA 123), (1, vI s), (2, vI p)] [vI 1] (mk h τ)
          refine a_if_ne (tgt := 56) dX9_item_49 (by decide) (fun _ => ?_) (fun c => absurd c (by decide))
          refine a_aload_n (j := 0) dX9_item_56 rfl rfl (Nat.le_of_ble_eq_true rfl) ?_
          refine b_getp (a := 123) (p := 151) dX9_item_57 fwX9_94 (by decide) rfl (by decide) rfl rfl ?_
          refine a_bipush dX9_item_60 ⟨by decide, by decide, by decide⟩ ?_
          refine a_iload_n (j := 1) dX9_item_62 rfl rfl ?_
          refine a_imul (z := (24 * s)) dX9_item_63 (w_ok (by omega) (by omega)) ?_
          refine a_iload_n (j := 2) dX9_item_64 rfl rfl ?_
          refine a_iadd (z := ((24 * s) + p)) dX9_item_65 (w_ok (by omega) (by omega)) ?_
          refine b_iaload (a := 151) (z := v3) (Int.toNat ((24 * s) + p)) dX9_item_66 (by decide) rfl (by omega) (by omega) (sp_nil rfl _) e3 (fun r66_8 => ?_)
          refine a_istore_n (lv' := [(3, vI v3), (0, vA 123), (1, vI s), (2, vI p)]) dX9_item_67 rfl (by decide) rfl ?_
          refine a_iload_n (j := 0) dX9_item_68 rfl rfl ?_
          refine a_ldc (z := (-1000000005)) dX9_item_69 kwX9_115 ⟨by decide, by decide, by decide⟩ ?_
          refine a_icmp_ne (tgt := 79) dX9_item_71 (by decide) (fun c71_9 => ?_) (fun c71_9 => ?_)
          · refine a_iload_n (j := 0) dX9_item_79 rfl rfl ?_
            exact a_iret dX9_item_80 rfl (k1 t1_1 c16_3 c30_5 t46_7 c71_9)
          · refine a_ldc (z := (-1000000012)) dX9_item_74 kwX9_171 ⟨by decide, by decide, by decide⟩ ?_
            refine a_goto (tgt := 80) dX9_item_76 (by decide) ?_
            exact a_iret dX9_item_80 rfl (k2 t1_1 c16_3 c30_5 t46_7 c71_9)
        · have t46_7 : ¬ (0 ≤ p ∧ p ≤ (v2 - 1)) := t46_7
          show Aj γ mX9_item d 0 0 Post 49 [(0, vA 123), (1, vI s), (2, vI p)] [vI 0] (mk h τ)
          refine a_if_ne (tgt := 56) dX9_item_49 (by decide) (fun c => absurd c (by decide)) (fun _ => ?_)
          refine a_ldcw (z := (-1000000013)) dX9_item_52 kwX9_317 ⟨by decide, by decide, by decide⟩ ?_
          exact a_iret dX9_item_55 rfl (k3 t1_1 c16_3 c30_5 t46_7)
      · refine a_ldc (z := (-1000000012)) dX9_item_33 kwX9_171 ⟨by decide, by decide, by decide⟩ ?_
        exact a_iret dX9_item_35 rfl (k4 t1_1 c16_3 c30_5)
    · refine a_ldcw (z := (-1000000011)) dX9_item_19 kwX9_316 ⟨by decide, by decide, by decide⟩ ?_
      exact a_iret dX9_item_22 rfl (k5 t1_1 c16_3)
  · have t1_1 : ¬ (0 ≤ s ∧ s ≤ 4) := t1_1
    show Aj γ mX9_item d 0 0 Post 4 [(0, vA 123), (1, vI s), (2, vI p)] [vI 0] (mk h τ)
    refine a_if_ne (tgt := 10) dX9_item_4 (by decide) (fun c => absurd c (by decide)) (fun _ => ?_)
    refine a_ldc (z := (-1000000001)) dX9_item_7 kwX9_146 ⟨by decide, by decide, by decide⟩ ?_
    exact a_iret dX9_item_9 rfl (k6 t1_1)
set_option maxHeartbeats 8000000 in
theorem c_X9_mark {γ : GT} {d : Nat} {s p y : Int} {h : Nat → Nat → Int} {τ : List AC} {Post : Option AV → List AC → Prop} (hd : 2 ≤ d) {v1 : Int} (e1 : h 146 (Int.toNat s) = v1) {v2 : Int} (e2 : h 145 (Int.toNat s) = v2) (hZ : Im s 4 (0 ≤ v1 ∧ v1 ≤ 24)) (k1 : (0 ≤ s ∧ s ≤ 3) → (0 ≤ v2) → (0 ≤ p ∧ p ≤ (v1 - 1)) → (¬ v2 = 0) → (¬ v2 = 1) → (¬ v2 = 0) → Post (some (vI 1)) (mk (up2 h 147 (Int.toNat ((24 * s) + p)) y) τ)) (k2 : (0 ≤ s ∧ s ≤ 3) → (0 ≤ v2) → (0 ≤ p ∧ p ≤ (v1 - 1)) → (¬ v2 = 0) → (v2 = 1) → (y = (-1000000005)) → (¬ v2 = 0) → Post (some (vI 1)) (mk (up2 h 147 (Int.toNat ((24 * s) + p)) y) τ)) (k3 : (0 ≤ s ∧ s ≤ 3) → (0 ≤ v2) → (0 ≤ p ∧ p ≤ (v1 - 1)) → (¬ v2 = 0) → (v2 = 1) → (¬ y = (-1000000005)) → ((-99999) ≤ y ∧ y ≤ 99999) → (¬ v2 = 0) → Post (some (vI 1)) (mk (up2 h 147 (Int.toNat ((24 * s) + p)) y) τ)) (k4 : (0 ≤ s ∧ s ≤ 3) → (0 ≤ v2) → (0 ≤ p ∧ p ≤ (v1 - 1)) → (¬ v2 = 0) → (v2 = 1) → (¬ y = (-1000000005)) → (¬ ((-99999) ≤ y ∧ y ≤ 99999)) → Post (some (vI (-1000000001))) (mk h τ)) (k5 : (0 ≤ s ∧ s ≤ 3) → (0 ≤ v2) → (0 ≤ p ∧ p ≤ (v1 - 1)) → (v2 = 0) → (¬ y = (-1000000005)) → (¬ v2 = 1) → (v2 = 0) → Post (some (vI 1)) (mk (up2 h 147 (Int.toNat ((24 * s) + p)) (s16 y)) τ)) (k6 : (0 ≤ s ∧ s ≤ 3) → (0 ≤ v2) → (0 ≤ p ∧ p ≤ (v1 - 1)) → (v2 = 0) → (y = (-1000000005)) → Post (some (vI (-1000000012))) (mk h τ)) (k7 : (0 ≤ s ∧ s ≤ 3) → (0 ≤ v2) → (¬ (0 ≤ p ∧ p ≤ (v1 - 1))) → Post (some (vI (-1000000013))) (mk h τ)) (k8 : (0 ≤ s ∧ s ≤ 3) → (¬ 0 ≤ v2) → Post (some (vI (-1000000011))) (mk h τ)) (k9 : (¬ (0 ≤ s ∧ s ≤ 3)) → Post (some (vI (-1000000001))) (mk h τ)) : Cj γ mX9_mark d 0 0 [vA 123, vI s, vI p, vI y] (mk h τ) Post := by
  refine c_of (by decide) (Nat.le_of_ble_eq_true rfl) ?_
  show Aj γ mX9_mark d 0 0 Post 0 [(0, vA 123), (1, vI s), (2, vI p), (3, vI y)] [] (mk h τ)
  refine a_iload_n (j := 1) dX9_mark_0 rfl rfl ?_
  refine a_callS (d' := d - 1) (mc' := 0) (ms' := 0) (mc1 := 0) (ms1 := 0) (st := []) [vI s] dX9_mark_1 mwX9_isSheet lkX9_312 rfl (Nat.le_of_ble_eq_true rfl) (by omega) rfl rfl (c_X9_isSheet  (by omega)    (fun t1_1 => ?_) (fun t1_1 => ?_))
  · have t1_1 : 0 ≤ s ∧ s ≤ 3 := t1_1
    show Aj γ mX9_mark d 0 0 Post 4 [(0, vA 123), (1, vI s), (2, vI p), (3, vI y)] [vI 1] (mk h τ)
    refine a_if_ne (tgt := 10) dX9_mark_4 (by decide) (fun _ => ?_) (fun c => absurd c (by decide))
    have hZ := hZ (by omega) (by omega)
    refine a_aload_n (j := 0) dX9_mark_10 rfl rfl (Nat.le_of_ble_eq_true rfl) ?_
    refine b_getp (a := 123) (p := 145) dX9_mark_11 fwX9_76 (by decide) rfl (by decide) rfl rfl ?_
    refine a_iload_n (j := 1) dX9_mark_14 rfl rfl ?_
    refine b_iaload (a := 145) (z := v2) (Int.toNat s) dX9_mark_15 (by decide) rfl (by omega) (by omega) (sp_nil rfl _) e2 (fun r15_2 => ?_)
    refine a_if_ge (tgt := 23) dX9_mark_16 (by decide) (fun c16_3 => ?_) (fun c16_3 => ?_)
    · refine a_iload_n (j := 2) dX9_mark_23 rfl rfl ?_
      refine a_iconst dX9_mark_24 ⟨by decide, by decide⟩ ?_
      refine a_aload_n (j := 0) dX9_mark_25 rfl rfl (Nat.le_of_ble_eq_true rfl) ?_
      refine b_getp (a := 123) (p := 146) dX9_mark_26 fwX9_79 (by decide) rfl (by decide) rfl rfl ?_
      refine a_iload_n (j := 1) dX9_mark_29 rfl rfl ?_
      refine b_iaload (a := 146) (z := v1) (Int.toNat s) dX9_mark_30 (by decide) rfl (by omega) (by omega) (sp_nil rfl _) e1 (fun r30_4 => ?_)
      refine a_iconst dX9_mark_31 ⟨by decide, by decide⟩ ?_
      refine a_isub (z := (v1 - 1)) dX9_mark_32 (w_ok (by omega) (by omega)) ?_
      refine a_callS (d' := d - 1) (mc' := 0) (ms' := 0) (mc1 := 0) (ms1 := 0) (st := []) [vI p, vI 0, vI (v1 - 1)] dX9_mark_33 mwX9_in lkX9_103 rfl (Nat.le_of_ble_eq_true rfl) (by omega) rfl rfl (c_X9_in  (by omega)    (fun t33_5 => ?_) (fun t33_5 => ?_))
      · have t33_5 : 0 ≤ p ∧ p ≤ (v1 - 1) := t33_5
        show Aj γ mX9_mark d 0 0 Post 36 [(0, vA 123), (1, vI s), (2, vI p), (3, vI y)] [vI 1] (mk h τ)
        refine a_if_ne (tgt := 43) dX9_mark_36 (by decide) (fun _ => ?_) (fun c => absurd c (by decide))
        refine a_aload_n (j := 0) dX9_mark_43 rfl rfl (Nat.le_of_ble_eq_true rfl) ?_
        refine b_getp (a := 123) (p := 145) dX9_mark_44 fwX9_76 (by decide) rfl (by decide) rfl rfl ?_
        refine a_iload_n (j := 1) dX9_mark_47 rfl rfl ?_
        refine b_iaload (a := 145) (z := v2) (Int.toNat s) dX9_mark_48 (by decide) rfl (by omega) (by omega) (sp_nil rfl _) e2 (fun r48_6 => ?_)
        refine a_if_ne (tgt := 61) dX9_mark_49 (by decide) (fun c49_7 => ?_) (fun c49_7 => ?_)
        · refine a_aload_n (j := 0) dX9_mark_61 rfl rfl (Nat.le_of_ble_eq_true rfl) ?_
          refine b_getp (a := 123) (p := 145) dX9_mark_62 fwX9_76 (by decide) rfl (by decide) rfl rfl ?_
          refine a_iload_n (j := 1) dX9_mark_65 rfl rfl ?_
          refine b_iaload (a := 145) (z := v2) (Int.toNat s) dX9_mark_66 (by decide) rfl (by omega) (by omega) (sp_nil rfl _) e2 (fun r66_8 => ?_)
          refine a_iconst dX9_mark_67 ⟨by decide, by decide⟩ ?_
          refine a_icmp_ne (tgt := 93) dX9_mark_68 (by decide) (fun c68_9 => ?_) (fun c68_9 => ?_)
          · refine a_aload_n (j := 0) dX9_mark_93 rfl rfl (Nat.le_of_ble_eq_true rfl) ?_
            refine b_getp (a := 123) (p := 147) dX9_mark_94 fwX9_82 (by decide) rfl (by decide) rfl rfl ?_
            refine a_bipush dX9_mark_97 ⟨by decide, by decide, by decide⟩ ?_
            refine a_iload_n (j := 1) dX9_mark_99 rfl rfl ?_
            refine a_imul (z := (24 * s)) dX9_mark_100 (w_ok (by omega) (by omega)) ?_
            refine a_iload_n (j := 2) dX9_mark_101 rfl rfl ?_
            refine a_iadd (z := ((24 * s) + p)) dX9_mark_102 (w_ok (by omega) (by omega)) ?_
            refine a_aload_n (j := 0) dX9_mark_103 rfl rfl (Nat.le_of_ble_eq_true rfl) ?_
            refine b_getp (a := 123) (p := 145) dX9_mark_104 fwX9_76 (by decide) rfl (by decide) rfl rfl ?_
            refine a_iload_n (j := 1) dX9_mark_107 rfl rfl ?_
            refine b_iaload (a := 145) (z := v2) (Int.toNat s) dX9_mark_108 (by decide) rfl (by omega) (by omega) (sp_nil rfl _) e2 (fun r108_10 => ?_)
            refine a_if_ne (tgt := 117) dX9_mark_109 (by decide) (fun c109_11 => ?_) (fun c109_11 => absurd c109_11 (by omega))
            refine a_iload_n (j := 3) dX9_mark_117 rfl rfl ?_
            refine b_iastore (a := 147) (Int.toNat ((24 * s) + p)) dX9_mark_118 (by decide) rfl (by omega) (by omega) (sp_nil rfl _) ?_
            refine a_iconst dX9_mark_119 ⟨by decide, by decide⟩ ?_
            exact a_iret dX9_mark_120 rfl (k1 t1_1 c16_3 t33_5 c49_7 c68_9 c109_11)
          · refine a_iload_n (j := 3) dX9_mark_71 rfl rfl ?_
            refine a_ldc (z := (-1000000005)) dX9_mark_72 kwX9_115 ⟨by decide, by decide, by decide⟩ ?_
            refine a_icmp_eq (tgt := 93) dX9_mark_74 (by decide) (fun c74_12 => ?_) (fun c74_12 => ?_)
            · refine a_aload_n (j := 0) dX9_mark_93 rfl rfl (Nat.le_of_ble_eq_true rfl) ?_
              refine b_getp (a := 123) (p := 147) dX9_mark_94 fwX9_82 (by decide) rfl (by decide) rfl rfl ?_
              refine a_bipush dX9_mark_97 ⟨by decide, by decide, by decide⟩ ?_
              refine a_iload_n (j := 1) dX9_mark_99 rfl rfl ?_
              refine a_imul (z := (24 * s)) dX9_mark_100 (w_ok (by omega) (by omega)) ?_
              refine a_iload_n (j := 2) dX9_mark_101 rfl rfl ?_
              refine a_iadd (z := ((24 * s) + p)) dX9_mark_102 (w_ok (by omega) (by omega)) ?_
              refine a_aload_n (j := 0) dX9_mark_103 rfl rfl (Nat.le_of_ble_eq_true rfl) ?_
              refine b_getp (a := 123) (p := 145) dX9_mark_104 fwX9_76 (by decide) rfl (by decide) rfl rfl ?_
              refine a_iload_n (j := 1) dX9_mark_107 rfl rfl ?_
              refine b_iaload (a := 145) (z := v2) (Int.toNat s) dX9_mark_108 (by decide) rfl (by omega) (by omega) (sp_nil rfl _) e2 (fun r108_13 => ?_)
              refine a_if_ne (tgt := 117) dX9_mark_109 (by decide) (fun c109_14 => ?_) (fun c109_14 => absurd c109_14 (by omega))
              refine a_iload_n (j := 3) dX9_mark_117 rfl rfl ?_
              refine b_iastore (a := 147) (Int.toNat ((24 * s) + p)) dX9_mark_118 (by decide) rfl (by omega) (by omega) (sp_nil rfl _) ?_
              refine a_iconst dX9_mark_119 ⟨by decide, by decide⟩ ?_
              exact a_iret dX9_mark_120 rfl (k2 t1_1 c16_3 t33_5 c49_7 c68_9 c74_12 c109_14)
            · refine a_iload_n (j := 3) dX9_mark_77 rfl rfl ?_
              refine a_ldcw (z := (-99999)) dX9_mark_78 kwX9_318 ⟨by decide, by decide, by decide⟩ ?_
              refine a_ldcw (z := 99999) dX9_mark_81 kwX9_319 ⟨by decide, by decide, by decide⟩ ?_
              refine a_callS (d' := d - 1) (mc' := 0) (ms' := 0) (mc1 := 0) (ms1 := 0) (st := []) [vI y, vI (-99999), vI 99999] dX9_mark_84 mwX9_in lkX9_103 rfl (Nat.le_of_ble_eq_true rfl) (by omega) rfl rfl (c_X9_in  (by omega)    (fun t84_15 => ?_) (fun t84_15 => ?_))
              · have t84_15 : (-99999) ≤ y ∧ y ≤ 99999 := t84_15
                show Aj γ mX9_mark d 0 0 Post 87 [(0, vA 123), (1, vI s), (2, vI p), (3, vI y)] [vI 1] (mk h τ)
                refine a_if_ne (tgt := 93) dX9_mark_87 (by decide) (fun _ => ?_) (fun c => absurd c (by decide))
                refine a_aload_n (j := 0) dX9_mark_93 rfl rfl (Nat.le_of_ble_eq_true rfl) ?_
                refine b_getp (a := 123) (p := 147) dX9_mark_94 fwX9_82 (by decide) rfl (by decide) rfl rfl ?_
                refine a_bipush dX9_mark_97 ⟨by decide, by decide, by decide⟩ ?_
                refine a_iload_n (j := 1) dX9_mark_99 rfl rfl ?_
                refine a_imul (z := (24 * s)) dX9_mark_100 (w_ok (by omega) (by omega)) ?_
                refine a_iload_n (j := 2) dX9_mark_101 rfl rfl ?_
                refine a_iadd (z := ((24 * s) + p)) dX9_mark_102 (w_ok (by omega) (by omega)) ?_
                refine a_aload_n (j := 0) dX9_mark_103 rfl rfl (Nat.le_of_ble_eq_true rfl) ?_
                refine b_getp (a := 123) (p := 145) dX9_mark_104 fwX9_76 (by decide) rfl (by decide) rfl rfl ?_
                refine a_iload_n (j := 1) dX9_mark_107 rfl rfl ?_
                refine b_iaload (a := 145) (z := v2) (Int.toNat s) dX9_mark_108 (by decide) rfl (by omega) (by omega) (sp_nil rfl _) e2 (fun r108_16 => ?_)
                refine a_if_ne (tgt := 117) dX9_mark_109 (by decide) (fun c109_17 => ?_) (fun c109_17 => absurd c109_17 (by omega))
                refine a_iload_n (j := 3) dX9_mark_117 rfl rfl ?_
                refine b_iastore (a := 147) (Int.toNat ((24 * s) + p)) dX9_mark_118 (by decide) rfl (by omega) (by omega) (sp_nil rfl _) ?_
                refine a_iconst dX9_mark_119 ⟨by decide, by decide⟩ ?_
                exact a_iret dX9_mark_120 rfl (k3 t1_1 c16_3 t33_5 c49_7 c68_9 c74_12 t84_15 c109_17)
              · have t84_15 : ¬ ((-99999) ≤ y ∧ y ≤ 99999) := t84_15
                show Aj γ mX9_mark d 0 0 Post 87 [(0, vA 123), (1, vI s), (2, vI p), (3, vI y)] [vI 0] (mk h τ)
                refine a_if_ne (tgt := 93) dX9_mark_87 (by decide) (fun c => absurd c (by decide)) (fun _ => ?_)
                refine a_ldc (z := (-1000000001)) dX9_mark_90 kwX9_146 ⟨by decide, by decide, by decide⟩ ?_
                exact a_iret dX9_mark_92 rfl (k4 t1_1 c16_3 t33_5 c49_7 c68_9 c74_12 t84_15)
        · refine a_iload_n (j := 3) dX9_mark_52 rfl rfl ?_
          refine a_ldc (z := (-1000000005)) dX9_mark_53 kwX9_115 ⟨by decide, by decide, by decide⟩ ?_
          refine a_icmp_ne (tgt := 61) dX9_mark_55 (by decide) (fun c55_18 => ?_) (fun c55_18 => ?_)
          · refine a_aload_n (j := 0) dX9_mark_61 rfl rfl (Nat.le_of_ble_eq_true rfl) ?_
            refine b_getp (a := 123) (p := 145) dX9_mark_62 fwX9_76 (by decide) rfl (by decide) rfl rfl ?_
            refine a_iload_n (j := 1) dX9_mark_65 rfl rfl ?_
            refine b_iaload (a := 145) (z := v2) (Int.toNat s) dX9_mark_66 (by decide) rfl (by omega) (by omega) (sp_nil rfl _) e2 (fun r66_19 => ?_)
            refine a_iconst dX9_mark_67 ⟨by decide, by decide⟩ ?_
            refine a_icmp_ne (tgt := 93) dX9_mark_68 (by decide) (fun c68_20 => ?_) (fun c68_20 => absurd c68_20 (by omega))
            refine a_aload_n (j := 0) dX9_mark_93 rfl rfl (Nat.le_of_ble_eq_true rfl) ?_
            refine b_getp (a := 123) (p := 147) dX9_mark_94 fwX9_82 (by decide) rfl (by decide) rfl rfl ?_
            refine a_bipush dX9_mark_97 ⟨by decide, by decide, by decide⟩ ?_
            refine a_iload_n (j := 1) dX9_mark_99 rfl rfl ?_
            refine a_imul (z := (24 * s)) dX9_mark_100 (w_ok (by omega) (by omega)) ?_
            refine a_iload_n (j := 2) dX9_mark_101 rfl rfl ?_
            refine a_iadd (z := ((24 * s) + p)) dX9_mark_102 (w_ok (by omega) (by omega)) ?_
            refine a_aload_n (j := 0) dX9_mark_103 rfl rfl (Nat.le_of_ble_eq_true rfl) ?_
            refine b_getp (a := 123) (p := 145) dX9_mark_104 fwX9_76 (by decide) rfl (by decide) rfl rfl ?_
            refine a_iload_n (j := 1) dX9_mark_107 rfl rfl ?_
            refine b_iaload (a := 145) (z := v2) (Int.toNat s) dX9_mark_108 (by decide) rfl (by omega) (by omega) (sp_nil rfl _) e2 (fun r108_21 => ?_)
            refine a_if_ne (tgt := 117) dX9_mark_109 (by decide) (fun c109_22 => absurd c109_22 (by omega)) (fun c109_22 => ?_)
            refine a_iload_n (j := 3) dX9_mark_112 rfl rfl ?_
            refine a_i2s (z := (s16 y)) dX9_mark_113 rfl ?_
            refine a_goto (tgt := 118) dX9_mark_114 (by decide) ?_
            refine b_iastore (a := 147) (Int.toNat ((24 * s) + p)) dX9_mark_118 (by decide) rfl (by omega) (by omega) (sp_nil rfl _) ?_
            refine a_iconst dX9_mark_119 ⟨by decide, by decide⟩ ?_
            exact a_iret dX9_mark_120 rfl (k5 t1_1 c16_3 t33_5 c49_7 c55_18 c68_20 c109_22)
          · refine a_ldc (z := (-1000000012)) dX9_mark_58 kwX9_171 ⟨by decide, by decide, by decide⟩ ?_
            exact a_iret dX9_mark_60 rfl (k6 t1_1 c16_3 t33_5 c49_7 c55_18)
      · have t33_5 : ¬ (0 ≤ p ∧ p ≤ (v1 - 1)) := t33_5
        show Aj γ mX9_mark d 0 0 Post 36 [(0, vA 123), (1, vI s), (2, vI p), (3, vI y)] [vI 0] (mk h τ)
        refine a_if_ne (tgt := 43) dX9_mark_36 (by decide) (fun c => absurd c (by decide)) (fun _ => ?_)
        refine a_ldcw (z := (-1000000013)) dX9_mark_39 kwX9_317 ⟨by decide, by decide, by decide⟩ ?_
        exact a_iret dX9_mark_42 rfl (k7 t1_1 c16_3 t33_5)
    · refine a_ldcw (z := (-1000000011)) dX9_mark_19 kwX9_316 ⟨by decide, by decide, by decide⟩ ?_
      exact a_iret dX9_mark_22 rfl (k8 t1_1 c16_3)
  · have t1_1 : ¬ (0 ≤ s ∧ s ≤ 3) := t1_1
    show Aj γ mX9_mark d 0 0 Post 4 [(0, vA 123), (1, vI s), (2, vI p), (3, vI y)] [vI 0] (mk h τ)
    refine a_if_ne (tgt := 10) dX9_mark_4 (by decide) (fun c => absurd c (by decide)) (fun _ => ?_)
    refine a_ldc (z := (-1000000001)) dX9_mark_7 kwX9_146 ⟨by decide, by decide, by decide⟩ ?_
    exact a_iret dX9_mark_9 rfl (k9 t1_1)
set_option maxHeartbeats 8000000 in
theorem c_X9_pour {γ : GT} {d : Nat} {s t : Int} {h : Nat → Nat → Int} {τ : List AC} {Post : Option AV → List AC → Prop} (hd : 2 ≤ d) {v1 : Int} (e1 : h 124 5 = v1) {v2 : Int} (e2 : h 145 (Int.toNat s) = v2) {v3 : Int} (e3 : h 146 (Int.toNat s) = v3) {v4 : Int} (e4 : h 147 (Int.toNat (24 * s)) = v4) {v5 : Int} (e5 : h 147 (Int.toNat ((24 * s) + 1)) = v5) {v6 : Int} (e6 : h 147 (Int.toNat ((24 * s) + 2)) = v6) (hN : 0 ≤ v1 ∧ v1 ≤ 12) (k1 : (0 ≤ s ∧ s ≤ 3) → (0 ≤ t ∧ t < v1) → (0 ≤ v2) → (3 ≤ v3) → (v4 = (-1000000005)) → Post (some (vI (-1000000012))) (mk h τ)) (k2 : (0 ≤ s ∧ s ≤ 3) → (0 ≤ t ∧ t < v1) → (0 ≤ v2) → (3 ≤ v3) → (¬ v4 = (-1000000005)) → (v5 = (-1000000005)) → Post (some (vI (-1000000012))) (mk h τ)) (k3 : (0 ≤ s ∧ s ≤ 3) → (0 ≤ t ∧ t < v1) → (0 ≤ v2) → (3 ≤ v3) → (¬ v4 = (-1000000005)) → (¬ v5 = (-1000000005)) → (¬ v6 = (-1000000005)) → ((0 ≤ v4 ∧ v4 ≤ 100) ∧ (0 ≤ v5 ∧ v5 ≤ 100) ∧ (0 ≤ v6 ∧ v6 ≤ 100) ∧ v4 + v5 + v6 ≤ 100) → Post (some (vI (100 - v4 - v5 - v6))) (mk (up2 (up2 (up2 (up2 (up2 h 124 (Int.toNat ((15 + (11 * t)) + 7)) (((100 - v4) - v5) - v6)) 124 (Int.toNat (((15 + (11 * t)) + 7) + 1)) v4) 124 (Int.toNat (((15 + (11 * t)) + 7) + 2)) v5) 124 (Int.toNat (((15 + (11 * t)) + 7) + 3)) v6) 123 4 0) τ)) (k4 : (0 ≤ s ∧ s ≤ 3) → (0 ≤ t ∧ t < v1) → (0 ≤ v2) → (3 ≤ v3) → (¬ v4 = (-1000000005)) → (¬ v5 = (-1000000005)) → (¬ v6 = (-1000000005)) → (¬ ((0 ≤ v4 ∧ v4 ≤ 100) ∧ (0 ≤ v5 ∧ v5 ≤ 100) ∧ (0 ≤ v6 ∧ v6 ≤ 100) ∧ v4 + v5 + v6 ≤ 100)) → Post (some (vI (-1000000001))) (mk h τ)) (k5 : (0 ≤ s ∧ s ≤ 3) → (0 ≤ t ∧ t < v1) → (0 ≤ v2) → (3 ≤ v3) → (¬ v4 = (-1000000005)) → (¬ v5 = (-1000000005)) → (v6 = (-1000000005)) → Post (some (vI (-1000000012))) (mk h τ)) (k6 : (0 ≤ s ∧ s ≤ 3) → (0 ≤ t ∧ t < v1) → (0 ≤ v2) → (¬ 3 ≤ v3) → Post (some (vI (-1000000013))) (mk h τ)) (k7 : (0 ≤ s ∧ s ≤ 3) → (0 ≤ t ∧ t < v1) → (¬ 0 ≤ v2) → Post (some (vI (-1000000011))) (mk h τ)) (k8 : (0 ≤ s ∧ s ≤ 3) → (¬ (0 ≤ t ∧ t < v1)) → Post (some (vI (-1000000001))) (mk h τ)) (k9 : (¬ (0 ≤ s ∧ s ≤ 3)) → Post (some (vI (-1000000001))) (mk h τ)) : Cj γ mX9_pour d 0 0 [vA 123, vI s, vI t] (mk h τ) Post := by
  refine c_of (by decide) (Nat.le_of_ble_eq_true rfl) ?_
  show Aj γ mX9_pour d 0 0 Post 0 [(0, vA 123), (1, vI s), (2, vI t)] [] (mk h τ)
  refine a_iload_n (j := 1) dX9_pour_0 rfl rfl ?_
  refine a_callS (d' := d - 1) (mc' := 0) (ms' := 0) (mc1 := 0) (ms1 := 0) (st := []) [vI s] dX9_pour_1 mwX9_isSheet lkX9_312 rfl (Nat.le_of_ble_eq_true rfl) (by omega) rfl rfl (c_X9_isSheet  (by omega)    (fun t1_1 => ?_) (fun t1_1 => ?_))
  · have t1_1 : 0 ≤ s ∧ s ≤ 3 := t1_1
    show Aj γ mX9_pour d 0 0 Post 4 [(0, vA 123), (1, vI s), (2, vI t)] [vI 1] (mk h τ)
    refine a_if_eq (tgt := 15) dX9_pour_4 (by decide) (fun c => absurd c (by decide)) (fun _ => ?_)
    refine a_aload_n (j := 0) dX9_pour_7 rfl rfl (Nat.le_of_ble_eq_true rfl) ?_
    refine a_iload_n (j := 2) dX9_pour_8 rfl rfl ?_
    refine b_callV (d' := d - 1) (mc' := 0) (ms' := 0) (mc1 := 0) (ms1 := 0) (st := []) (b := 123) [vI t] dX9_pour_9 mwX9_isTrain lkX9_152 (by decide) rfl rc_X9 rfl (Nat.le_of_ble_eq_true rfl) (by omega) rfl rfl (c_X9_isTrain (v1 := v1) (by omega)  e1 (show 0 ≤ v1 ∧ v1 ≤ 12 by omega) (fun t9_2 => ?_) (fun t9_2 => ?_))
    · have t9_2 : 0 ≤ t ∧ t < v1 := t9_2
      show Aj γ mX9_pour d 0 0 Post 12 [(0, vA 123), (1, vI s), (2, vI t)] [vI 1] (mk h τ)
      refine a_if_ne (tgt := 18) dX9_pour_12 (by decide) (fun _ => ?_) (fun c => absurd c (by decide))
      refine a_aload_n (j := 0) dX9_pour_18 rfl rfl (Nat.le_of_ble_eq_true rfl) ?_
      refine b_getp (a := 123) (p := 145) dX9_pour_19 fwX9_76 (by decide) rfl (by decide) rfl rfl ?_
      refine a_iload_n (j := 1) dX9_pour_22 rfl rfl ?_
      refine b_iaload (a := 145) (z := v2) (Int.toNat s) dX9_pour_23 (by decide) rfl (by omega) (by omega) (sp_nil rfl _) e2 (fun r23_3 => ?_)
      refine a_if_ge (tgt := 31) dX9_pour_24 (by decide) (fun c24_4 => ?_) (fun c24_4 => ?_)
      · refine a_aload_n (j := 0) dX9_pour_31 rfl rfl (Nat.le_of_ble_eq_true rfl) ?_
        refine b_getp (a := 123) (p := 146) dX9_pour_32 fwX9_79 (by decide) rfl (by decide) rfl rfl ?_
        refine a_iload_n (j := 1) dX9_pour_35 rfl rfl ?_
        refine b_iaload (a := 146) (z := v3) (Int.toNat s) dX9_pour_36 (by decide) rfl (by omega) (by omega) (sp_nil rfl _) e3 (fun r36_5 => ?_)
        refine a_iconst dX9_pour_37 ⟨by decide, by decide⟩ ?_
        refine a_icmp_ge (tgt := 45) dX9_pour_38 (by decide) (fun c38_6 => ?_) (fun c38_6 => ?_)
        · refine a_aload_n (j := 0) dX9_pour_45 rfl rfl (Nat.le_of_ble_eq_true rfl) ?_
          refine b_getp (a := 123) (p := 147) dX9_pour_46 fwX9_82 (by decide) rfl (by decide) rfl rfl ?_
          refine a_bipush dX9_pour_49 ⟨by decide, by decide, by decide⟩ ?_
          refine a_iload_n (j := 1) dX9_pour_51 rfl rfl ?_
          refine a_imul (z := (24 * s)) dX9_pour_52 (w_ok (by omega) (by omega)) ?_
          refine b_iaload (a := 147) (z := v4) (Int.toNat (24 * s)) dX9_pour_53 (by decide) rfl (by omega) (by omega) (sp_nil rfl _) e4 (fun r53_7 => ?_)
          refine a_istore_n (lv' := [(3, vI v4), (0, vA 123), (1, vI s), (2, vI t)]) dX9_pour_54 rfl (by decide) rfl ?_
          refine a_aload_n (j := 1) dX9_pour_55 rfl rfl (Nat.le_of_ble_eq_true rfl) ?_
          refine b_getp (a := 123) (p := 147) dX9_pour_56 fwX9_82 (by decide) rfl (by decide) rfl rfl ?_
          refine a_bipush dX9_pour_59 ⟨by decide, by decide, by decide⟩ ?_
          refine a_iload_n (j := 2) dX9_pour_61 rfl rfl ?_
          refine a_imul (z := (24 * s)) dX9_pour_62 (w_ok (by omega) (by omega)) ?_
          refine a_iconst dX9_pour_63 ⟨by decide, by decide⟩ ?_
          refine a_iadd (z := ((24 * s) + 1)) dX9_pour_64 (w_ok (by omega) (by omega)) ?_
          refine b_iaload (a := 147) (z := v5) (Int.toNat ((24 * s) + 1)) dX9_pour_65 (by decide) rfl (by omega) (by omega) (sp_nil rfl _) e5 (fun r65_8 => ?_)
          refine a_istore (lv' := [(4, vI v5), (3, vI v4), (0, vA 123), (1, vI s), (2, vI t)]) dX9_pour_66 (by decide) rfl ?_
          refine a_aload_n (j := 2) dX9_pour_68 rfl rfl (Nat.le_of_ble_eq_true rfl) ?_
          refine b_getp (a := 123) (p := 147) dX9_pour_69 fwX9_82 (by decide) rfl (by decide) rfl rfl ?_
          refine a_bipush dX9_pour_72 ⟨by decide, by decide, by decide⟩ ?_
          refine a_iload_n (j := 3) dX9_pour_74 rfl rfl ?_
          refine a_imul (z := (24 * s)) dX9_pour_75 (w_ok (by omega) (by omega)) ?_
          refine a_iconst dX9_pour_76 ⟨by decide, by decide⟩ ?_
          refine a_iadd (z := ((24 * s) + 2)) dX9_pour_77 (w_ok (by omega) (by omega)) ?_
          refine b_iaload (a := 147) (z := v6) (Int.toNat ((24 * s) + 2)) dX9_pour_78 (by decide) rfl (by omega) (by omega) (sp_nil rfl _) e6 (fun r78_9 => ?_)
          refine a_istore (lv' := [(5, vI v6), (4, vI v5), (3, vI v4), (0, vA 123), (1, vI s), (2, vI t)]) dX9_pour_79 (by decide) rfl ?_
          refine a_iload_n (j := 2) dX9_pour_81 rfl rfl ?_
          refine a_ldc (z := (-1000000005)) dX9_pour_82 kwX9_115 ⟨by decide, by decide, by decide⟩ ?_
          refine a_icmp_eq (tgt := 101) dX9_pour_84 (by decide) (fun c84_10 => ?_) (fun c84_10 => ?_)
          · refine a_ldc (z := (-1000000012)) dX9_pour_101 kwX9_171 ⟨by decide, by decide, by decide⟩ ?_
            exact a_iret dX9_pour_103 rfl (k1 t1_1 t9_2 c24_4 c38_6 c84_10)
          · refine a_iload (j := 1) dX9_pour_87 rfl ?_
            refine a_ldc (z := (-1000000005)) dX9_pour_89 kwX9_115 ⟨by decide, by decide, by decide⟩ ?_
            refine a_icmp_eq (tgt := 101) dX9_pour_91 (by decide) (fun c91_11 => ?_) (fun c91_11 => ?_)
            · refine a_ldc (z := (-1000000012)) dX9_pour_101 kwX9_171 ⟨by decide, by decide, by decide⟩ ?_
              exact a_iret dX9_pour_103 rfl (k2 t1_1 t9_2 c24_4 c38_6 c84_10 c91_11)
            · refine a_iload (j := 0) dX9_pour_94 rfl ?_
              refine a_ldc (z := (-1000000005)) dX9_pour_96 kwX9_115 ⟨by decide, by decide, by decide⟩ ?_
              refine a_icmp_ne (tgt := 104) dX9_pour_98 (by decide) (fun c98_12 => ?_) (fun c98_12 => ?_)
              · refine a_iload_n (j := 2) dX9_pour_104 rfl rfl ?_
                refine a_iload (j := 1) dX9_pour_105 rfl ?_
                refine a_iload (j := 0) dX9_pour_107 rfl ?_
                refine a_callS (d' := d - 1) (mc' := 0) (ms' := 0) (mc1 := 0) (ms1 := 0) (st := []) [vI v4, vI v5, vI v6] dX9_pour_109 mwX9_areChances lkX9_175 rfl (Nat.le_of_ble_eq_true rfl) (by omega) rfl rfl (c_X9_areChances  (by omega)    (fun t109_13 => ?_) (fun t109_13 => ?_))
                · have t109_13 : (0 ≤ v4 ∧ v4 ≤ 100) ∧ (0 ≤ v5 ∧ v5 ≤ 100) ∧ (0 ≤ v6 ∧ v6 ≤ 100) ∧ v4 + v5 + v6 ≤ 100 := t109_13
                  show Aj γ mX9_pour d 0 0 Post 112 [(5, vI v6), (4, vI v5), (3, vI v4), (0, vA 123), (1, vI s), (2, vI t)] [vI 1] (mk h τ)
                  refine a_if_eq (tgt := 128) dX9_pour_112 (by decide) (fun c => absurd c (by decide)) (fun _ => ?_)
                  refine a_aload_n (j := 3) dX9_pour_115 rfl rfl (Nat.le_of_ble_eq_true rfl) ?_
                  refine a_iload_n (j := 5) dX9_pour_116 rfl rfl ?_
                  refine a_iload_n (j := 2) dX9_pour_117 rfl rfl ?_
                  refine a_iload (j := 1) dX9_pour_118 rfl ?_
                  refine a_iload (j := 0) dX9_pour_120 rfl ?_
                  refine b_callV (d' := d - 1) (mc' := 0) (ms' := 0) (mc1 := 0) (ms1 := 0) (st := []) (b := 123) [vI t, vI v4, vI v5, vI v6] dX9_pour_122 mwX9_setsChances lkX9_178 (by decide) rfl rc_X9 rfl (Nat.le_of_ble_eq_true rfl) (by omega) rfl rfl (c_X9_setsChances  (by omega)   (show 0 ≤ t ∧ t ≤ 11 by omega) (show (0 ≤ v4 ∧ v4 ≤ 100) ∧ (0 ≤ v5 ∧ v5 ≤ 100) ∧ (0 ≤ v6 ∧ v6 ≤ 100) by omega) ?_)
                  show Aj γ mX9_pour d 0 0 Post 125 [(5, vI v6), (4, vI v5), (3, vI v4), (0, vA 123), (1, vI s), (2, vI t)] [vI (100 - v4 - v5 - v6)] (mk (up2 (up2 (up2 (up2 (up2 h 124 (Int.toNat ((15 + (11 * t)) + 7)) (((100 - v4) - v5) - v6)) 124 (Int.toNat (((15 + (11 * t)) + 7) + 1)) v4) 124 (Int.toNat (((15 + (11 * t)) + 7) + 2)) v5) 124 (Int.toNat (((15 + (11 * t)) + 7) + 3)) v6) 123 4 0) τ)
                  refine a_goto (tgt := 130) dX9_pour_125 (by decide) ?_
                  exact a_iret dX9_pour_130 rfl (k3 t1_1 t9_2 c24_4 c38_6 c84_10 c91_11 c98_12 t109_13)
                · have t109_13 : ¬ ((0 ≤ v4 ∧ v4 ≤ 100) ∧ (0 ≤ v5 ∧ v5 ≤ 100) ∧ (0 ≤ v6 ∧ v6 ≤ 100) ∧ v4 + v5 + v6 ≤ 100) := t109_13
                  show Aj γ mX9_pour d 0 0 Post 112 [(5, vI v6), (4, vI v5), (3, vI v4), (0, vA 123), (1, vI s), (2, vI t)] [vI 0] (mk h τ)
                  refine a_if_eq (tgt := 128) dX9_pour_112 (by decide) (fun _ => ?_) (fun c => absurd c (by decide))
                  refine a_ldc (z := (-1000000001)) dX9_pour_128 kwX9_146 ⟨by decide, by decide, by decide⟩ ?_
                  exact a_iret dX9_pour_130 rfl (k4 t1_1 t9_2 c24_4 c38_6 c84_10 c91_11 c98_12 t109_13)
              · refine a_ldc (z := (-1000000012)) dX9_pour_101 kwX9_171 ⟨by decide, by decide, by decide⟩ ?_
                exact a_iret dX9_pour_103 rfl (k5 t1_1 t9_2 c24_4 c38_6 c84_10 c91_11 c98_12)
        · refine a_ldcw (z := (-1000000013)) dX9_pour_41 kwX9_317 ⟨by decide, by decide, by decide⟩ ?_
          exact a_iret dX9_pour_44 rfl (k6 t1_1 t9_2 c24_4 c38_6)
      · refine a_ldcw (z := (-1000000011)) dX9_pour_27 kwX9_316 ⟨by decide, by decide, by decide⟩ ?_
        exact a_iret dX9_pour_30 rfl (k7 t1_1 t9_2 c24_4)
    · have t9_2 : ¬ (0 ≤ t ∧ t < v1) := t9_2
      show Aj γ mX9_pour d 0 0 Post 12 [(0, vA 123), (1, vI s), (2, vI t)] [vI 0] (mk h τ)
      refine a_if_ne (tgt := 18) dX9_pour_12 (by decide) (fun c => absurd c (by decide)) (fun _ => ?_)
      refine a_ldc (z := (-1000000001)) dX9_pour_15 kwX9_146 ⟨by decide, by decide, by decide⟩ ?_
      exact a_iret dX9_pour_17 rfl (k8 t1_1 t9_2)
  · have t1_1 : ¬ (0 ≤ s ∧ s ≤ 3) := t1_1
    show Aj γ mX9_pour d 0 0 Post 4 [(0, vA 123), (1, vI s), (2, vI t)] [vI 0] (mk h τ)
    refine a_if_eq (tgt := 15) dX9_pour_4 (by decide) (fun _ => ?_) (fun c => absurd c (by decide))
    refine a_ldc (z := (-1000000001)) dX9_pour_15 kwX9_146 ⟨by decide, by decide, by decide⟩ ?_
    exact a_iret dX9_pour_17 rfl (k9 t1_1)
set_option maxHeartbeats 8000000 in
theorem c_X9_textTold {γ : GT} {d : Nat} {t q : Int} {h : Nat → Nat → Int} {τ : List AC} {Post : Option AV → List AC → Prop} (hd : 2 ≤ d) {v1 : Int} (e1 : h 124 6 = v1) {v2 : Int} (e2 : h 124 (Int.toNat (173 + (2 * t))) = v2) {v3 : Int} (e3 : h 124 (Int.toNat ((173 + (2 * t)) + 1)) = v3) (hT : 0 ≤ v1 ∧ v1 ≤ 14) (hZ : Im t v1 (0 ≤ v2 ∧ v2 ≤ 2999)) (k1 : (0 ≤ t ∧ t ≤ (v1 - 1)) → (0 ≤ q ∧ q ≤ 1) → (¬ q = 0) → Post (some (vI v3)) (mk h τ)) (k2 : (0 ≤ t ∧ t ≤ (v1 - 1)) → (0 ≤ q ∧ q ≤ 1) → (q = 0) → Post (some (vI (v2 / 1000))) (mk h τ)) (k3 : (0 ≤ t ∧ t ≤ (v1 - 1)) → (¬ (0 ≤ q ∧ q ≤ 1)) → Post (some (vI (-1000000001))) (mk h τ)) (k4 : (¬ (0 ≤ t ∧ t ≤ (v1 - 1))) → Post (some (vI (-1000000001))) (mk h τ)) : Cj γ mX9_textTold d 0 0 [vA 123, vI t, vI q] (mk h τ) Post := by
  refine c_of (by decide) (Nat.le_of_ble_eq_true rfl) ?_
  show Aj γ mX9_textTold d 0 0 Post 0 [(0, vA 123), (1, vI t), (2, vI q)] [] (mk h τ)
  refine a_iload_n (j := 1) dX9_textTold_0 rfl rfl ?_
  refine a_iconst dX9_textTold_1 ⟨by decide, by decide⟩ ?_
  refine a_aload_n (j := 0) dX9_textTold_2 rfl rfl (Nat.le_of_ble_eq_true rfl) ?_
  refine b_getp (a := 123) (p := 124) dX9_textTold_3 fwX9_9 (by decide) rfl (by decide) rfl rfl ?_
  refine a_bipush dX9_textTold_6 ⟨by decide, by decide, by decide⟩ ?_
  refine b_iaload (a := 124) (z := v1) 6 dX9_textTold_8 (by decide) rfl rfl (by decide) rfl e1 (fun r8_1 => ?_)
  refine a_iconst dX9_textTold_9 ⟨by decide, by decide⟩ ?_
  refine a_isub (z := (v1 - 1)) dX9_textTold_10 (w_ok (by omega) (by omega)) ?_
  refine a_callS (d' := d - 1) (mc' := 0) (ms' := 0) (mc1 := 0) (ms1 := 0) (st := []) [vI t, vI 0, vI (v1 - 1)] dX9_textTold_11 mwX9_in lkX9_103 rfl (Nat.le_of_ble_eq_true rfl) (by omega) rfl rfl (c_X9_in  (by omega)    (fun t11_2 => ?_) (fun t11_2 => ?_))
  · have t11_2 : 0 ≤ t ∧ t ≤ (v1 - 1) := t11_2
    show Aj γ mX9_textTold d 0 0 Post 14 [(0, vA 123), (1, vI t), (2, vI q)] [vI 1] (mk h τ)
    refine a_if_eq (tgt := 26) dX9_textTold_14 (by decide) (fun c => absurd c (by decide)) (fun _ => ?_)
    refine a_iload_n (j := 2) dX9_textTold_17 rfl rfl ?_
    refine a_iconst dX9_textTold_18 ⟨by decide, by decide⟩ ?_
    refine a_iconst dX9_textTold_19 ⟨by decide, by decide⟩ ?_
    refine a_callS (d' := d - 1) (mc' := 0) (ms' := 0) (mc1 := 0) (ms1 := 0) (st := []) [vI q, vI 0, vI 1] dX9_textTold_20 mwX9_in lkX9_103 rfl (Nat.le_of_ble_eq_true rfl) (by omega) rfl rfl (c_X9_in  (by omega)    (fun t20_3 => ?_) (fun t20_3 => ?_))
    · have t20_3 : 0 ≤ q ∧ q ≤ 1 := t20_3
      show Aj γ mX9_textTold d 0 0 Post 23 [(0, vA 123), (1, vI t), (2, vI q)] [vI 1] (mk h τ)
      refine a_if_ne (tgt := 29) dX9_textTold_23 (by decide) (fun _ => ?_) (fun c => absurd c (by decide))
      refine a_iload_n (j := 2) dX9_textTold_29 rfl rfl ?_
      refine a_if_ne (tgt := 52) dX9_textTold_30 (by decide) (fun c30_4 => ?_) (fun c30_4 => ?_)
      · refine a_aload_n (j := 0) dX9_textTold_52 rfl rfl (Nat.le_of_ble_eq_true rfl) ?_
        refine b_getp (a := 123) (p := 124) dX9_textTold_53 fwX9_9 (by decide) rfl (by decide) rfl rfl ?_
        refine a_sipush dX9_textTold_56 ⟨by decide, by decide, by decide⟩ ?_
        refine a_iconst dX9_textTold_59 ⟨by decide, by decide⟩ ?_
        refine a_iload_n (j := 1) dX9_textTold_60 rfl rfl ?_
        refine a_imul (z := (2 * t)) dX9_textTold_61 (w_ok (by omega) (by omega)) ?_
        refine a_iadd (z := (173 + (2 * t))) dX9_textTold_62 (w_ok (by omega) (by omega)) ?_
        refine a_iconst dX9_textTold_63 ⟨by decide, by decide⟩ ?_
        refine a_iadd (z := ((173 + (2 * t)) + 1)) dX9_textTold_64 (w_ok (by omega) (by omega)) ?_
        refine b_iaload (a := 124) (z := v3) (Int.toNat ((173 + (2 * t)) + 1)) dX9_textTold_65 (by decide) rfl (by omega) (by omega) (sp_nil rfl _) e3 (fun r65_5 => ?_)
        exact a_iret dX9_textTold_66 rfl (k1 t11_2 t20_3 c30_4)
      · have hZ := hZ (by omega) (by omega)
        refine a_aload_n (j := 0) dX9_textTold_33 rfl rfl (Nat.le_of_ble_eq_true rfl) ?_
        refine b_getp (a := 123) (p := 124) dX9_textTold_34 fwX9_9 (by decide) rfl (by decide) rfl rfl ?_
        refine a_sipush dX9_textTold_37 ⟨by decide, by decide, by decide⟩ ?_
        refine a_iconst dX9_textTold_40 ⟨by decide, by decide⟩ ?_
        refine a_iload_n (j := 1) dX9_textTold_41 rfl rfl ?_
        refine a_imul (z := (2 * t)) dX9_textTold_42 (w_ok (by omega) (by omega)) ?_
        refine a_iadd (z := (173 + (2 * t))) dX9_textTold_43 (w_ok (by omega) (by omega)) ?_
        refine b_iaload (a := 124) (z := v2) (Int.toNat (173 + (2 * t))) dX9_textTold_44 (by decide) rfl (by omega) (by omega) (sp_nil rfl _) e2 (fun r44_6 => ?_)
        refine a_sipush dX9_textTold_45 ⟨by decide, by decide, by decide⟩ ?_
        refine a_idiv (z := (v2 / 1000)) dX9_textTold_48 (by omega) (w_divN (by omega) (by omega) (by omega)) ?_
        refine a_goto (tgt := 66) dX9_textTold_49 (by decide) ?_
        exact a_iret dX9_textTold_66 rfl (k2 t11_2 t20_3 c30_4)
    · have t20_3 : ¬ (0 ≤ q ∧ q ≤ 1) := t20_3
      show Aj γ mX9_textTold d 0 0 Post 23 [(0, vA 123), (1, vI t), (2, vI q)] [vI 0] (mk h τ)
      refine a_if_ne (tgt := 29) dX9_textTold_23 (by decide) (fun c => absurd c (by decide)) (fun _ => ?_)
      refine a_ldc (z := (-1000000001)) dX9_textTold_26 kwX9_146 ⟨by decide, by decide, by decide⟩ ?_
      exact a_iret dX9_textTold_28 rfl (k3 t11_2 t20_3)
  · have t11_2 : ¬ (0 ≤ t ∧ t ≤ (v1 - 1)) := t11_2
    show Aj γ mX9_textTold d 0 0 Post 14 [(0, vA 123), (1, vI t), (2, vI q)] [vI 0] (mk h τ)
    refine a_if_eq (tgt := 26) dX9_textTold_14 (by decide) (fun _ => ?_) (fun c => absurd c (by decide))
    refine a_ldc (z := (-1000000001)) dX9_textTold_26 kwX9_146 ⟨by decide, by decide, by decide⟩ ?_
    exact a_iret dX9_textTold_28 rfl (k4 t11_2)
set_option maxHeartbeats 8000000 in
theorem c_X9_feed {γ : GT} {d : Nat} {a b c : Int} {h : Nat → Nat → Int} {τ : List AC} {Post : Option AV → List AC → Prop} (hd : 1 ≤ d) {v1 : Int} (e1 : h 123 17 = v1) (hT : 0 ≤ v1 ∧ v1 ≤ 96) (k1 : ((v1 + 12) ≤ 96) → Post (some (vI (v1 + 12))) (mk (up2 (up2 (up2 (up2 (up2 (up2 (up2 (up2 (up2 (up2 (up2 (up2 (up2 h 137 (Int.toNat (v1 + 0)) (and32 (shr32 a 24) 255)) 137 (Int.toNat (v1 + 1)) (and32 (shr32 a 16) 255)) 137 (Int.toNat (v1 + 2)) (and32 (shr32 a 8) 255)) 137 (Int.toNat (v1 + 3)) (and32 (shr32 a 0) 255)) 137 (Int.toNat (v1 + 4)) (and32 (shr32 b 24) 255)) 137 (Int.toNat (v1 + 5)) (and32 (shr32 b 16) 255)) 137 (Int.toNat (v1 + 6)) (and32 (shr32 b 8) 255)) 137 (Int.toNat (v1 + 7)) (and32 (shr32 b 0) 255)) 137 (Int.toNat (v1 + 8)) (and32 (shr32 c 24) 255)) 137 (Int.toNat (v1 + 9)) (and32 (shr32 c 16) 255)) 137 (Int.toNat (v1 + 10)) (and32 (shr32 c 8) 255)) 137 (Int.toNat (v1 + 11)) (and32 (shr32 c 0) 255)) 123 17 (v1 + 12)) τ)) (k2 : (¬ (v1 + 12) ≤ 96) → Post (some (vI (-1000000003))) (mk h τ)) : Cj γ mX9_feed d 0 0 [vA 123, vI a, vI b, vI c] (mk h τ) Post := by
  refine c_of (by decide) (Nat.le_of_ble_eq_true rfl) ?_
  show Aj γ mX9_feed d 0 0 Post 0 [(0, vA 123), (1, vI a), (2, vI b), (3, vI c)] [] (mk h τ)
  refine a_aload_n (j := 0) dX9_feed_0 rfl rfl (Nat.le_of_ble_eq_true rfl) ?_
  refine b_get (a := 123) (z := v1) (t := 0) dX9_feed_1 fwX9_229 (by decide) rfl (by decide) rfl rfl e1 ?_
  refine a_bipush dX9_feed_4 ⟨by decide, by decide, by decide⟩ ?_
  refine a_iadd (z := (v1 + 12)) dX9_feed_6 (w_ok (by omega) (by omega)) ?_
  refine a_bipush dX9_feed_7 ⟨by decide, by decide, by decide⟩ ?_
  refine a_icmp_le (tgt := 15) dX9_feed_9 (by decide) (fun c9_1 => ?_) (fun c9_1 => ?_)
  · refine a_iconst dX9_feed_15 ⟨by decide, by decide⟩ ?_
    refine a_istore (lv' := [(4, vI 0), (0, vA 123), (1, vI a), (2, vI b), (3, vI c)]) dX9_feed_16 (by decide) rfl ?_
    refine a_iload (j := 0) dX9_feed_18 rfl ?_
    refine a_bipush dX9_feed_20 ⟨by decide, by decide, by decide⟩ ?_
    refine a_icmp_ge (tgt := 84) dX9_feed_22 (by decide) (fun c => absurd c (by decide)) (fun _ => ?_)
    refine a_iload (j := 0) dX9_feed_25 rfl ?_
    refine a_iconst dX9_feed_27 ⟨by decide, by decide⟩ ?_
    refine a_icmp_ge (tgt := 35) dX9_feed_28 (by decide) (fun c => absurd c (by decide)) (fun _ => ?_)
    refine a_iload_n (j := 2) dX9_feed_31 rfl rfl ?_
    refine a_goto (tgt := 47) dX9_feed_32 (by decide) ?_
    refine a_istore (lv' := [(5, vI a), (4, vI 0), (0, vA 123), (1, vI a), (2, vI b), (3, vI c)]) dX9_feed_47 (by decide) rfl ?_
    refine a_aload_n (j := 2) dX9_feed_49 rfl rfl (Nat.le_of_ble_eq_true rfl) ?_
    refine b_getp (a := 123) (p := 137) dX9_feed_50 fwX9_50 (by decide) rfl (by decide) rfl rfl ?_
    refine a_aload_n (j := 2) dX9_feed_53 rfl rfl (Nat.le_of_ble_eq_true rfl) ?_
    refine b_get (a := 123) (z := v1) (t := 0) dX9_feed_54 fwX9_229 (by decide) rfl (by decide) rfl rfl e1 ?_
    refine a_iload (j := 1) dX9_feed_57 rfl ?_
    refine a_iadd (z := v1 + 0) dX9_feed_59 (w_ok (by omega) (by omega)) ?_
    refine a_iload (j := 0) dX9_feed_60 rfl ?_
    refine a_bipush dX9_feed_62 ⟨by decide, by decide, by decide⟩ ?_
    refine a_bipush dX9_feed_64 ⟨by decide, by decide, by decide⟩ ?_
    refine a_iload (j := 1) dX9_feed_66 rfl ?_
    refine a_iconst dX9_feed_68 ⟨by decide, by decide⟩ ?_
    refine a_irem (z := 0) dX9_feed_69 (by decide) (by decide) ?_
    refine a_imul (z := 0) dX9_feed_70 (w_ok (by omega) (by omega)) ?_
    refine a_isub (z := 24) dX9_feed_71 (w_ok (by omega) (by omega)) ?_
    refine a_ishr (z := (shr32 a 24)) dX9_feed_72 rfl ?_
    refine a_sipush dX9_feed_73 ⟨by decide, by decide, by decide⟩ ?_
    refine a_iand (z := (and32 (shr32 a 24) 255)) dX9_feed_76 rfl ?_
    refine b_iastore (a := 137) (Int.toNat (v1 + 0)) dX9_feed_77 (by decide) rfl (by omega) (by omega) (sp_nil rfl _) ?_
    refine a_iinc (j := 1) (z' := 1) (lv' := [(4, vI 1), (5, vI a), (0, vA 123), (1, vI a), (2, vI b), (3, vI c)]) dX9_feed_78 rfl (w_ok (by omega) (by omega)) (by decide) rfl ?_
    refine a_goto (tgt := 18) dX9_feed_81 (by decide) ?_
    refine a_iload (j := 0) dX9_feed_18 rfl ?_
    refine a_bipush dX9_feed_20 ⟨by decide, by decide, by decide⟩ ?_
    refine a_icmp_ge (tgt := 84) dX9_feed_22 (by decide) (fun c => absurd c (by decide)) (fun _ => ?_)
    refine a_iload (j := 0) dX9_feed_25 rfl ?_
    refine a_iconst dX9_feed_27 ⟨by decide, by decide⟩ ?_
    refine a_icmp_ge (tgt := 35) dX9_feed_28 (by decide) (fun c => absurd c (by decide)) (fun _ => ?_)
    refine a_iload_n (j := 3) dX9_feed_31 rfl rfl ?_
    refine a_goto (tgt := 47) dX9_feed_32 (by decide) ?_
    refine a_istore (lv' := [(5, vI a), (4, vI 1), (0, vA 123), (1, vI a), (2, vI b), (3, vI c)]) dX9_feed_47 (by decide) rfl ?_
    refine a_aload_n (j := 2) dX9_feed_49 rfl rfl (Nat.le_of_ble_eq_true rfl) ?_
    refine b_getp (a := 123) (p := 137) dX9_feed_50 fwX9_50 (by decide) rfl (by decide) rfl rfl ?_
    refine a_aload_n (j := 2) dX9_feed_53 rfl rfl (Nat.le_of_ble_eq_true rfl) ?_
    refine b_get (a := 123) (z := v1) (t := 0) dX9_feed_54 fwX9_229 (by decide) rfl (by decide) rfl rfl ((up2_ne (by omega)).trans e1) ?_
    refine a_iload (j := 1) dX9_feed_57 rfl ?_
    refine a_iadd (z := (v1 + 1)) dX9_feed_59 (w_ok (by omega) (by omega)) ?_
    refine a_iload (j := 0) dX9_feed_60 rfl ?_
    refine a_bipush dX9_feed_62 ⟨by decide, by decide, by decide⟩ ?_
    refine a_bipush dX9_feed_64 ⟨by decide, by decide, by decide⟩ ?_
    refine a_iload (j := 1) dX9_feed_66 rfl ?_
    refine a_iconst dX9_feed_68 ⟨by decide, by decide⟩ ?_
    refine a_irem (z := 1) dX9_feed_69 (by decide) (by decide) ?_
    refine a_imul (z := 8) dX9_feed_70 (w_ok (by omega) (by omega)) ?_
    refine a_isub (z := 16) dX9_feed_71 (w_ok (by omega) (by omega)) ?_
    refine a_ishr (z := (shr32 a 16)) dX9_feed_72 rfl ?_
    refine a_sipush dX9_feed_73 ⟨by decide, by decide, by decide⟩ ?_
    refine a_iand (z := (and32 (shr32 a 16) 255)) dX9_feed_76 rfl ?_
    refine b_iastore (a := 137) (Int.toNat (v1 + 1)) dX9_feed_77 (by decide) rfl (by omega) (by omega) (sp_nil rfl _) ?_
    refine a_iinc (j := 1) (z' := 2) (lv' := [(4, vI 2), (5, vI a), (0, vA 123), (1, vI a), (2, vI b), (3, vI c)]) dX9_feed_78 rfl (w_ok (by omega) (by omega)) (by decide) rfl ?_
    refine a_goto (tgt := 18) dX9_feed_81 (by decide) ?_
    refine a_iload (j := 0) dX9_feed_18 rfl ?_
    refine a_bipush dX9_feed_20 ⟨by decide, by decide, by decide⟩ ?_
    refine a_icmp_ge (tgt := 84) dX9_feed_22 (by decide) (fun c => absurd c (by decide)) (fun _ => ?_)
    refine a_iload (j := 0) dX9_feed_25 rfl ?_
    refine a_iconst dX9_feed_27 ⟨by decide, by decide⟩ ?_
    refine a_icmp_ge (tgt := 35) dX9_feed_28 (by decide) (fun c => absurd c (by decide)) (fun _ => ?_)
    refine a_iload_n (j := 3) dX9_feed_31 rfl rfl ?_
    refine a_goto (tgt := 47) dX9_feed_32 (by decide) ?_
    refine a_istore (lv' := [(5, vI a), (4, vI 2), (0, vA 123), (1, vI a), (2, vI b), (3, vI c)]) dX9_feed_47 (by decide) rfl ?_
    refine a_aload_n (j := 2) dX9_feed_49 rfl rfl (Nat.le_of_ble_eq_true rfl) ?_
    refine b_getp (a := 123) (p := 137) dX9_feed_50 fwX9_50 (by decide) rfl (by decide) rfl rfl ?_
    refine a_aload_n (j := 2) dX9_feed_53 rfl rfl (Nat.le_of_ble_eq_true rfl) ?_
    refine b_get (a := 123) (z := v1) (t := 0) dX9_feed_54 fwX9_229 (by decide) rfl (by decide) rfl rfl ((up2_ne (by omega)).trans ((up2_ne (by omega)).trans e1)) ?_
    refine a_iload (j := 1) dX9_feed_57 rfl ?_
    refine a_iadd (z := (v1 + 2)) dX9_feed_59 (w_ok (by omega) (by omega)) ?_
    refine a_iload (j := 0) dX9_feed_60 rfl ?_
    refine a_bipush dX9_feed_62 ⟨by decide, by decide, by decide⟩ ?_
    refine a_bipush dX9_feed_64 ⟨by decide, by decide, by decide⟩ ?_
    refine a_iload (j := 1) dX9_feed_66 rfl ?_
    refine a_iconst dX9_feed_68 ⟨by decide, by decide⟩ ?_
    refine a_irem (z := 2) dX9_feed_69 (by decide) (by decide) ?_
    refine a_imul (z := 16) dX9_feed_70 (w_ok (by omega) (by omega)) ?_
    refine a_isub (z := 8) dX9_feed_71 (w_ok (by omega) (by omega)) ?_
    refine a_ishr (z := (shr32 a 8)) dX9_feed_72 rfl ?_
    refine a_sipush dX9_feed_73 ⟨by decide, by decide, by decide⟩ ?_
    refine a_iand (z := (and32 (shr32 a 8) 255)) dX9_feed_76 rfl ?_
    refine b_iastore (a := 137) (Int.toNat (v1 + 2)) dX9_feed_77 (by decide) rfl (by omega) (by omega) (sp_nil rfl _) ?_
    refine a_iinc (j := 1) (z' := 3) (lv' := [(4, vI 3), (5, vI a), (0, vA 123), (1, vI a), (2, vI b), (3, vI c)]) dX9_feed_78 rfl (w_ok (by omega) (by omega)) (by decide) rfl ?_
    refine a_goto (tgt := 18) dX9_feed_81 (by decide) ?_
    refine a_iload (j := 0) dX9_feed_18 rfl ?_
    refine a_bipush dX9_feed_20 ⟨by decide, by decide, by decide⟩ ?_
    refine a_icmp_ge (tgt := 84) dX9_feed_22 (by decide) (fun c => absurd c (by decide)) (fun _ => ?_)
    refine a_iload (j := 0) dX9_feed_25 rfl ?_
    refine a_iconst dX9_feed_27 ⟨by decide, by decide⟩ ?_
    refine a_icmp_ge (tgt := 35) dX9_feed_28 (by decide) (fun c => absurd c (by decide)) (fun _ => ?_)
    refine a_iload_n (j := 3) dX9_feed_31 rfl rfl ?_
    refine a_goto (tgt := 47) dX9_feed_32 (by decide) ?_
    refine a_istore (lv' := [(5, vI a), (4, vI 3), (0, vA 123), (1, vI a), (2, vI b), (3, vI c)]) dX9_feed_47 (by decide) rfl ?_
    refine a_aload_n (j := 2) dX9_feed_49 rfl rfl (Nat.le_of_ble_eq_true rfl) ?_
    refine b_getp (a := 123) (p := 137) dX9_feed_50 fwX9_50 (by decide) rfl (by decide) rfl rfl ?_
    refine a_aload_n (j := 2) dX9_feed_53 rfl rfl (Nat.le_of_ble_eq_true rfl) ?_
    refine b_get (a := 123) (z := v1) (t := 0) dX9_feed_54 fwX9_229 (by decide) rfl (by decide) rfl rfl ((up2_ne (by omega)).trans ((up2_ne (by omega)).trans ((up2_ne (by omega)).trans e1))) ?_
    refine a_iload (j := 1) dX9_feed_57 rfl ?_
    refine a_iadd (z := (v1 + 3)) dX9_feed_59 (w_ok (by omega) (by omega)) ?_
    refine a_iload (j := 0) dX9_feed_60 rfl ?_
    refine a_bipush dX9_feed_62 ⟨by decide, by decide, by decide⟩ ?_
    refine a_bipush dX9_feed_64 ⟨by decide, by decide, by decide⟩ ?_
    refine a_iload (j := 1) dX9_feed_66 rfl ?_
    refine a_iconst dX9_feed_68 ⟨by decide, by decide⟩ ?_
    refine a_irem (z := 3) dX9_feed_69 (by decide) (by decide) ?_
    refine a_imul (z := 24) dX9_feed_70 (w_ok (by omega) (by omega)) ?_
    refine a_isub (z := 0) dX9_feed_71 (w_ok (by omega) (by omega)) ?_
    refine a_ishr (z := (shr32 a 0)) dX9_feed_72 rfl ?_
    refine a_sipush dX9_feed_73 ⟨by decide, by decide, by decide⟩ ?_
    refine a_iand (z := (and32 (shr32 a 0) 255)) dX9_feed_76 rfl ?_
    refine b_iastore (a := 137) (Int.toNat (v1 + 3)) dX9_feed_77 (by decide) rfl (by omega) (by omega) (sp_nil rfl _) ?_
    refine a_iinc (j := 1) (z' := 4) (lv' := [(4, vI 4), (5, vI a), (0, vA 123), (1, vI a), (2, vI b), (3, vI c)]) dX9_feed_78 rfl (w_ok (by omega) (by omega)) (by decide) rfl ?_
    refine a_goto (tgt := 18) dX9_feed_81 (by decide) ?_
    refine a_iload (j := 0) dX9_feed_18 rfl ?_
    refine a_bipush dX9_feed_20 ⟨by decide, by decide, by decide⟩ ?_
    refine a_icmp_ge (tgt := 84) dX9_feed_22 (by decide) (fun c => absurd c (by decide)) (fun _ => ?_)
    refine a_iload (j := 0) dX9_feed_25 rfl ?_
    refine a_iconst dX9_feed_27 ⟨by decide, by decide⟩ ?_
    refine a_icmp_ge (tgt := 35) dX9_feed_28 (by decide) (fun _ => ?_) (fun c => absurd c (by decide))
    refine a_iload (j := 0) dX9_feed_35 rfl ?_
    refine a_bipush dX9_feed_37 ⟨by decide, by decide, by decide⟩ ?_
    refine a_icmp_ge (tgt := 46) dX9_feed_39 (by decide) (fun c => absurd c (by decide)) (fun _ => ?_)
    refine a_iload_n (j := 4) dX9_feed_42 rfl rfl ?_
    refine a_goto (tgt := 47) dX9_feed_43 (by decide) ?_
    refine a_istore (lv' := [(5, vI b), (4, vI 4), (0, vA 123), (1, vI a), (2, vI b), (3, vI c)]) dX9_feed_47 (by decide) rfl ?_
    refine a_aload_n (j := 2) dX9_feed_49 rfl rfl (Nat.le_of_ble_eq_true rfl) ?_
    refine b_getp (a := 123) (p := 137) dX9_feed_50 fwX9_50 (by decide) rfl (by decide) rfl rfl ?_
    refine a_aload_n (j := 2) dX9_feed_53 rfl rfl (Nat.le_of_ble_eq_true rfl) ?_
    refine b_get (a := 123) (z := v1) (t := 0) dX9_feed_54 fwX9_229 (by decide) rfl (by decide) rfl rfl ((up2_ne (by omega)).trans ((up2_ne (by omega)).trans ((up2_ne (by omega)).trans ((up2_ne (by omega)).trans e1)))) ?_
    refine a_iload (j := 1) dX9_feed_57 rfl ?_
    refine a_iadd (z := (v1 + 4)) dX9_feed_59 (w_ok (by omega) (by omega)) ?_
    refine a_iload (j := 0) dX9_feed_60 rfl ?_
    refine a_bipush dX9_feed_62 ⟨by decide, by decide, by decide⟩ ?_
    refine a_bipush dX9_feed_64 ⟨by decide, by decide, by decide⟩ ?_
    refine a_iload (j := 1) dX9_feed_66 rfl ?_
    refine a_iconst dX9_feed_68 ⟨by decide, by decide⟩ ?_
    refine a_irem (z := 0) dX9_feed_69 (by decide) (by decide) ?_
    refine a_imul (z := 0) dX9_feed_70 (w_ok (by omega) (by omega)) ?_
    refine a_isub (z := 24) dX9_feed_71 (w_ok (by omega) (by omega)) ?_
    refine a_ishr (z := (shr32 b 24)) dX9_feed_72 rfl ?_
    refine a_sipush dX9_feed_73 ⟨by decide, by decide, by decide⟩ ?_
    refine a_iand (z := (and32 (shr32 b 24) 255)) dX9_feed_76 rfl ?_
    refine b_iastore (a := 137) (Int.toNat (v1 + 4)) dX9_feed_77 (by decide) rfl (by omega) (by omega) (sp_nil rfl _) ?_
    refine a_iinc (j := 1) (z' := 5) (lv' := [(4, vI 5), (5, vI b), (0, vA 123), (1, vI a), (2, vI b), (3, vI c)]) dX9_feed_78 rfl (w_ok (by omega) (by omega)) (by decide) rfl ?_
    refine a_goto (tgt := 18) dX9_feed_81 (by decide) ?_
    refine a_iload (j := 0) dX9_feed_18 rfl ?_
    refine a_bipush dX9_feed_20 ⟨by decide, by decide, by decide⟩ ?_
    refine a_icmp_ge (tgt := 84) dX9_feed_22 (by decide) (fun c => absurd c (by decide)) (fun _ => ?_)
    refine a_iload (j := 0) dX9_feed_25 rfl ?_
    refine a_iconst dX9_feed_27 ⟨by decide, by decide⟩ ?_
    refine a_icmp_ge (tgt := 35) dX9_feed_28 (by decide) (fun _ => ?_) (fun c => absurd c (by decide))
    refine a_iload (j := 0) dX9_feed_35 rfl ?_
    refine a_bipush dX9_feed_37 ⟨by decide, by decide, by decide⟩ ?_
    refine a_icmp_ge (tgt := 46) dX9_feed_39 (by decide) (fun c => absurd c (by decide)) (fun _ => ?_)
    refine a_iload_n (j := 4) dX9_feed_42 rfl rfl ?_
    refine a_goto (tgt := 47) dX9_feed_43 (by decide) ?_
    refine a_istore (lv' := [(5, vI b), (4, vI 5), (0, vA 123), (1, vI a), (2, vI b), (3, vI c)]) dX9_feed_47 (by decide) rfl ?_
    refine a_aload_n (j := 2) dX9_feed_49 rfl rfl (Nat.le_of_ble_eq_true rfl) ?_
    refine b_getp (a := 123) (p := 137) dX9_feed_50 fwX9_50 (by decide) rfl (by decide) rfl rfl ?_
    refine a_aload_n (j := 2) dX9_feed_53 rfl rfl (Nat.le_of_ble_eq_true rfl) ?_
    refine b_get (a := 123) (z := v1) (t := 0) dX9_feed_54 fwX9_229 (by decide) rfl (by decide) rfl rfl ((up2_ne (by omega)).trans ((up2_ne (by omega)).trans ((up2_ne (by omega)).trans ((up2_ne (by omega)).trans ((up2_ne (by omega)).trans e1))))) ?_
    refine a_iload (j := 1) dX9_feed_57 rfl ?_
    refine a_iadd (z := (v1 + 5)) dX9_feed_59 (w_ok (by omega) (by omega)) ?_
    refine a_iload (j := 0) dX9_feed_60 rfl ?_
    refine a_bipush dX9_feed_62 ⟨by decide, by decide, by decide⟩ ?_
    refine a_bipush dX9_feed_64 ⟨by decide, by decide, by decide⟩ ?_
    refine a_iload (j := 1) dX9_feed_66 rfl ?_
    refine a_iconst dX9_feed_68 ⟨by decide, by decide⟩ ?_
    refine a_irem (z := 1) dX9_feed_69 (by decide) (by decide) ?_
    refine a_imul (z := 8) dX9_feed_70 (w_ok (by omega) (by omega)) ?_
    refine a_isub (z := 16) dX9_feed_71 (w_ok (by omega) (by omega)) ?_
    refine a_ishr (z := (shr32 b 16)) dX9_feed_72 rfl ?_
    refine a_sipush dX9_feed_73 ⟨by decide, by decide, by decide⟩ ?_
    refine a_iand (z := (and32 (shr32 b 16) 255)) dX9_feed_76 rfl ?_
    refine b_iastore (a := 137) (Int.toNat (v1 + 5)) dX9_feed_77 (by decide) rfl (by omega) (by omega) (sp_nil rfl _) ?_
    refine a_iinc (j := 1) (z' := 6) (lv' := [(4, vI 6), (5, vI b), (0, vA 123), (1, vI a), (2, vI b), (3, vI c)]) dX9_feed_78 rfl (w_ok (by omega) (by omega)) (by decide) rfl ?_
    refine a_goto (tgt := 18) dX9_feed_81 (by decide) ?_
    refine a_iload (j := 0) dX9_feed_18 rfl ?_
    refine a_bipush dX9_feed_20 ⟨by decide, by decide, by decide⟩ ?_
    refine a_icmp_ge (tgt := 84) dX9_feed_22 (by decide) (fun c => absurd c (by decide)) (fun _ => ?_)
    refine a_iload (j := 0) dX9_feed_25 rfl ?_
    refine a_iconst dX9_feed_27 ⟨by decide, by decide⟩ ?_
    refine a_icmp_ge (tgt := 35) dX9_feed_28 (by decide) (fun _ => ?_) (fun c => absurd c (by decide))
    refine a_iload (j := 0) dX9_feed_35 rfl ?_
    refine a_bipush dX9_feed_37 ⟨by decide, by decide, by decide⟩ ?_
    refine a_icmp_ge (tgt := 46) dX9_feed_39 (by decide) (fun c => absurd c (by decide)) (fun _ => ?_)
    refine a_iload_n (j := 4) dX9_feed_42 rfl rfl ?_
    refine a_goto (tgt := 47) dX9_feed_43 (by decide) ?_
    refine a_istore (lv' := [(5, vI b), (4, vI 6), (0, vA 123), (1, vI a), (2, vI b), (3, vI c)]) dX9_feed_47 (by decide) rfl ?_
    refine a_aload_n (j := 2) dX9_feed_49 rfl rfl (Nat.le_of_ble_eq_true rfl) ?_
    refine b_getp (a := 123) (p := 137) dX9_feed_50 fwX9_50 (by decide) rfl (by decide) rfl rfl ?_
    refine a_aload_n (j := 2) dX9_feed_53 rfl rfl (Nat.le_of_ble_eq_true rfl) ?_
    refine b_get (a := 123) (z := v1) (t := 0) dX9_feed_54 fwX9_229 (by decide) rfl (by decide) rfl rfl ((up2_ne (by omega)).trans ((up2_ne (by omega)).trans ((up2_ne (by omega)).trans ((up2_ne (by omega)).trans ((up2_ne (by omega)).trans ((up2_ne (by omega)).trans e1)))))) ?_
    refine a_iload (j := 1) dX9_feed_57 rfl ?_
    refine a_iadd (z := (v1 + 6)) dX9_feed_59 (w_ok (by omega) (by omega)) ?_
    refine a_iload (j := 0) dX9_feed_60 rfl ?_
    refine a_bipush dX9_feed_62 ⟨by decide, by decide, by decide⟩ ?_
    refine a_bipush dX9_feed_64 ⟨by decide, by decide, by decide⟩ ?_
    refine a_iload (j := 1) dX9_feed_66 rfl ?_
    refine a_iconst dX9_feed_68 ⟨by decide, by decide⟩ ?_
    refine a_irem (z := 2) dX9_feed_69 (by decide) (by decide) ?_
    refine a_imul (z := 16) dX9_feed_70 (w_ok (by omega) (by omega)) ?_
    refine a_isub (z := 8) dX9_feed_71 (w_ok (by omega) (by omega)) ?_
    refine a_ishr (z := (shr32 b 8)) dX9_feed_72 rfl ?_
    refine a_sipush dX9_feed_73 ⟨by decide, by decide, by decide⟩ ?_
    refine a_iand (z := (and32 (shr32 b 8) 255)) dX9_feed_76 rfl ?_
    refine b_iastore (a := 137) (Int.toNat (v1 + 6)) dX9_feed_77 (by decide) rfl (by omega) (by omega) (sp_nil rfl _) ?_
    refine a_iinc (j := 1) (z' := 7) (lv' := [(4, vI 7), (5, vI b), (0, vA 123), (1, vI a), (2, vI b), (3, vI c)]) dX9_feed_78 rfl (w_ok (by omega) (by omega)) (by decide) rfl ?_
    refine a_goto (tgt := 18) dX9_feed_81 (by decide) ?_
    refine a_iload (j := 0) dX9_feed_18 rfl ?_
    refine a_bipush dX9_feed_20 ⟨by decide, by decide, by decide⟩ ?_
    refine a_icmp_ge (tgt := 84) dX9_feed_22 (by decide) (fun c => absurd c (by decide)) (fun _ => ?_)
    refine a_iload (j := 0) dX9_feed_25 rfl ?_
    refine a_iconst dX9_feed_27 ⟨by decide, by decide⟩ ?_
    refine a_icmp_ge (tgt := 35) dX9_feed_28 (by decide) (fun _ => ?_) (fun c => absurd c (by decide))
    refine a_iload (j := 0) dX9_feed_35 rfl ?_
    refine a_bipush dX9_feed_37 ⟨by decide, by decide, by decide⟩ ?_
    refine a_icmp_ge (tgt := 46) dX9_feed_39 (by decide) (fun c => absurd c (by decide)) (fun _ => ?_)
    refine a_iload_n (j := 4) dX9_feed_42 rfl rfl ?_
    refine a_goto (tgt := 47) dX9_feed_43 (by decide) ?_
    refine a_istore (lv' := [(5, vI b), (4, vI 7), (0, vA 123), (1, vI a), (2, vI b), (3, vI c)]) dX9_feed_47 (by decide) rfl ?_
    refine a_aload_n (j := 2) dX9_feed_49 rfl rfl (Nat.le_of_ble_eq_true rfl) ?_
    refine b_getp (a := 123) (p := 137) dX9_feed_50 fwX9_50 (by decide) rfl (by decide) rfl rfl ?_
    refine a_aload_n (j := 2) dX9_feed_53 rfl rfl (Nat.le_of_ble_eq_true rfl) ?_
    refine b_get (a := 123) (z := v1) (t := 0) dX9_feed_54 fwX9_229 (by decide) rfl (by decide) rfl rfl ((up2_ne (by omega)).trans ((up2_ne (by omega)).trans ((up2_ne (by omega)).trans ((up2_ne (by omega)).trans ((up2_ne (by omega)).trans ((up2_ne (by omega)).trans ((up2_ne (by omega)).trans e1))))))) ?_
    refine a_iload (j := 1) dX9_feed_57 rfl ?_
    refine a_iadd (z := (v1 + 7)) dX9_feed_59 (w_ok (by omega) (by omega)) ?_
    refine a_iload (j := 0) dX9_feed_60 rfl ?_
    refine a_bipush dX9_feed_62 ⟨by decide, by decide, by decide⟩ ?_
    refine a_bipush dX9_feed_64 ⟨by decide, by decide, by decide⟩ ?_
    refine a_iload (j := 1) dX9_feed_66 rfl ?_
    refine a_iconst dX9_feed_68 ⟨by decide, by decide⟩ ?_
    refine a_irem (z := 3) dX9_feed_69 (by decide) (by decide) ?_
    refine a_imul (z := 24) dX9_feed_70 (w_ok (by omega) (by omega)) ?_
    refine a_isub (z := 0) dX9_feed_71 (w_ok (by omega) (by omega)) ?_
    refine a_ishr (z := (shr32 b 0)) dX9_feed_72 rfl ?_
    refine a_sipush dX9_feed_73 ⟨by decide, by decide, by decide⟩ ?_
    refine a_iand (z := (and32 (shr32 b 0) 255)) dX9_feed_76 rfl ?_
    refine b_iastore (a := 137) (Int.toNat (v1 + 7)) dX9_feed_77 (by decide) rfl (by omega) (by omega) (sp_nil rfl _) ?_
    refine a_iinc (j := 1) (z' := 8) (lv' := [(4, vI 8), (5, vI b), (0, vA 123), (1, vI a), (2, vI b), (3, vI c)]) dX9_feed_78 rfl (w_ok (by omega) (by omega)) (by decide) rfl ?_
    refine a_goto (tgt := 18) dX9_feed_81 (by decide) ?_
    refine a_iload (j := 0) dX9_feed_18 rfl ?_
    refine a_bipush dX9_feed_20 ⟨by decide, by decide, by decide⟩ ?_
    refine a_icmp_ge (tgt := 84) dX9_feed_22 (by decide) (fun c => absurd c (by decide)) (fun _ => ?_)
    refine a_iload (j := 0) dX9_feed_25 rfl ?_
    refine a_iconst dX9_feed_27 ⟨by decide, by decide⟩ ?_
    refine a_icmp_ge (tgt := 35) dX9_feed_28 (by decide) (fun _ => ?_) (fun c => absurd c (by decide))
    refine a_iload (j := 0) dX9_feed_35 rfl ?_
    refine a_bipush dX9_feed_37 ⟨by decide, by decide, by decide⟩ ?_
    refine a_icmp_ge (tgt := 46) dX9_feed_39 (by decide) (fun _ => ?_) (fun c => absurd c (by decide))
    refine a_iload_n (j := 5) dX9_feed_46 rfl rfl ?_
    refine a_istore (lv' := [(5, vI c), (4, vI 8), (0, vA 123), (1, vI a), (2, vI b), (3, vI c)]) dX9_feed_47 (by decide) rfl ?_
    refine a_aload_n (j := 2) dX9_feed_49 rfl rfl (Nat.le_of_ble_eq_true rfl) ?_
    refine b_getp (a := 123) (p := 137) dX9_feed_50 fwX9_50 (by decide) rfl (by decide) rfl rfl ?_
    refine a_aload_n (j := 2) dX9_feed_53 rfl rfl (Nat.le_of_ble_eq_true rfl) ?_
    refine b_get (a := 123) (z := v1) (t := 0) dX9_feed_54 fwX9_229 (by decide) rfl (by decide) rfl rfl ((up2_ne (by omega)).trans ((up2_ne (by omega)).trans ((up2_ne (by omega)).trans ((up2_ne (by omega)).trans ((up2_ne (by omega)).trans ((up2_ne (by omega)).trans ((up2_ne (by omega)).trans ((up2_ne (by omega)).trans e1)))))))) ?_
    refine a_iload (j := 1) dX9_feed_57 rfl ?_
    refine a_iadd (z := (v1 + 8)) dX9_feed_59 (w_ok (by omega) (by omega)) ?_
    refine a_iload (j := 0) dX9_feed_60 rfl ?_
    refine a_bipush dX9_feed_62 ⟨by decide, by decide, by decide⟩ ?_
    refine a_bipush dX9_feed_64 ⟨by decide, by decide, by decide⟩ ?_
    refine a_iload (j := 1) dX9_feed_66 rfl ?_
    refine a_iconst dX9_feed_68 ⟨by decide, by decide⟩ ?_
    refine a_irem (z := 0) dX9_feed_69 (by decide) (by decide) ?_
    refine a_imul (z := 0) dX9_feed_70 (w_ok (by omega) (by omega)) ?_
    refine a_isub (z := 24) dX9_feed_71 (w_ok (by omega) (by omega)) ?_
    refine a_ishr (z := (shr32 c 24)) dX9_feed_72 rfl ?_
    refine a_sipush dX9_feed_73 ⟨by decide, by decide, by decide⟩ ?_
    refine a_iand (z := (and32 (shr32 c 24) 255)) dX9_feed_76 rfl ?_
    refine b_iastore (a := 137) (Int.toNat (v1 + 8)) dX9_feed_77 (by decide) rfl (by omega) (by omega) (sp_nil rfl _) ?_
    refine a_iinc (j := 1) (z' := 9) (lv' := [(4, vI 9), (5, vI c), (0, vA 123), (1, vI a), (2, vI b), (3, vI c)]) dX9_feed_78 rfl (w_ok (by omega) (by omega)) (by decide) rfl ?_
    refine a_goto (tgt := 18) dX9_feed_81 (by decide) ?_
    refine a_iload (j := 0) dX9_feed_18 rfl ?_
    refine a_bipush dX9_feed_20 ⟨by decide, by decide, by decide⟩ ?_
    refine a_icmp_ge (tgt := 84) dX9_feed_22 (by decide) (fun c => absurd c (by decide)) (fun _ => ?_)
    refine a_iload (j := 0) dX9_feed_25 rfl ?_
    refine a_iconst dX9_feed_27 ⟨by decide, by decide⟩ ?_
    refine a_icmp_ge (tgt := 35) dX9_feed_28 (by decide) (fun _ => ?_) (fun c => absurd c (by decide))
    refine a_iload (j := 0) dX9_feed_35 rfl ?_
    refine a_bipush dX9_feed_37 ⟨by decide, by decide, by decide⟩ ?_
    refine a_icmp_ge (tgt := 46) dX9_feed_39 (by decide) (fun _ => ?_) (fun c => absurd c (by decide))
    refine a_iload_n (j := 5) dX9_feed_46 rfl rfl ?_
    refine a_istore (lv' := [(5, vI c), (4, vI 9), (0, vA 123), (1, vI a), (2, vI b), (3, vI c)]) dX9_feed_47 (by decide) rfl ?_
    refine a_aload_n (j := 2) dX9_feed_49 rfl rfl (Nat.le_of_ble_eq_true rfl) ?_
    refine b_getp (a := 123) (p := 137) dX9_feed_50 fwX9_50 (by decide) rfl (by decide) rfl rfl ?_
    refine a_aload_n (j := 2) dX9_feed_53 rfl rfl (Nat.le_of_ble_eq_true rfl) ?_
    refine b_get (a := 123) (z := v1) (t := 0) dX9_feed_54 fwX9_229 (by decide) rfl (by decide) rfl rfl ((up2_ne (by omega)).trans ((up2_ne (by omega)).trans ((up2_ne (by omega)).trans ((up2_ne (by omega)).trans ((up2_ne (by omega)).trans ((up2_ne (by omega)).trans ((up2_ne (by omega)).trans ((up2_ne (by omega)).trans ((up2_ne (by omega)).trans e1))))))))) ?_
    refine a_iload (j := 1) dX9_feed_57 rfl ?_
    refine a_iadd (z := (v1 + 9)) dX9_feed_59 (w_ok (by omega) (by omega)) ?_
    refine a_iload (j := 0) dX9_feed_60 rfl ?_
    refine a_bipush dX9_feed_62 ⟨by decide, by decide, by decide⟩ ?_
    refine a_bipush dX9_feed_64 ⟨by decide, by decide, by decide⟩ ?_
    refine a_iload (j := 1) dX9_feed_66 rfl ?_
    refine a_iconst dX9_feed_68 ⟨by decide, by decide⟩ ?_
    refine a_irem (z := 1) dX9_feed_69 (by decide) (by decide) ?_
    refine a_imul (z := 8) dX9_feed_70 (w_ok (by omega) (by omega)) ?_
    refine a_isub (z := 16) dX9_feed_71 (w_ok (by omega) (by omega)) ?_
    refine a_ishr (z := (shr32 c 16)) dX9_feed_72 rfl ?_
    refine a_sipush dX9_feed_73 ⟨by decide, by decide, by decide⟩ ?_
    refine a_iand (z := (and32 (shr32 c 16) 255)) dX9_feed_76 rfl ?_
    refine b_iastore (a := 137) (Int.toNat (v1 + 9)) dX9_feed_77 (by decide) rfl (by omega) (by omega) (sp_nil rfl _) ?_
    refine a_iinc (j := 1) (z' := 10) (lv' := [(4, vI 10), (5, vI c), (0, vA 123), (1, vI a), (2, vI b), (3, vI c)]) dX9_feed_78 rfl (w_ok (by omega) (by omega)) (by decide) rfl ?_
    refine a_goto (tgt := 18) dX9_feed_81 (by decide) ?_
    refine a_iload (j := 0) dX9_feed_18 rfl ?_
    refine a_bipush dX9_feed_20 ⟨by decide, by decide, by decide⟩ ?_
    refine a_icmp_ge (tgt := 84) dX9_feed_22 (by decide) (fun c => absurd c (by decide)) (fun _ => ?_)
    refine a_iload (j := 0) dX9_feed_25 rfl ?_
    refine a_iconst dX9_feed_27 ⟨by decide, by decide⟩ ?_
    refine a_icmp_ge (tgt := 35) dX9_feed_28 (by decide) (fun _ => ?_) (fun c => absurd c (by decide))
    refine a_iload (j := 0) dX9_feed_35 rfl ?_
    refine a_bipush dX9_feed_37 ⟨by decide, by decide, by decide⟩ ?_
    refine a_icmp_ge (tgt := 46) dX9_feed_39 (by decide) (fun _ => ?_) (fun c => absurd c (by decide))
    refine a_iload_n (j := 5) dX9_feed_46 rfl rfl ?_
    refine a_istore (lv' := [(5, vI c), (4, vI 10), (0, vA 123), (1, vI a), (2, vI b), (3, vI c)]) dX9_feed_47 (by decide) rfl ?_
    refine a_aload_n (j := 2) dX9_feed_49 rfl rfl (Nat.le_of_ble_eq_true rfl) ?_
    refine b_getp (a := 123) (p := 137) dX9_feed_50 fwX9_50 (by decide) rfl (by decide) rfl rfl ?_
    refine a_aload_n (j := 2) dX9_feed_53 rfl rfl (Nat.le_of_ble_eq_true rfl) ?_
    refine b_get (a := 123) (z := v1) (t := 0) dX9_feed_54 fwX9_229 (by decide) rfl (by decide) rfl rfl ((up2_ne (by omega)).trans ((up2_ne (by omega)).trans ((up2_ne (by omega)).trans ((up2_ne (by omega)).trans ((up2_ne (by omega)).trans ((up2_ne (by omega)).trans ((up2_ne (by omega)).trans ((up2_ne (by omega)).trans ((up2_ne (by omega)).trans ((up2_ne (by omega)).trans e1)))))))))) ?_
    refine a_iload (j := 1) dX9_feed_57 rfl ?_
    refine a_iadd (z := (v1 + 10)) dX9_feed_59 (w_ok (by omega) (by omega)) ?_
    refine a_iload (j := 0) dX9_feed_60 rfl ?_
    refine a_bipush dX9_feed_62 ⟨by decide, by decide, by decide⟩ ?_
    refine a_bipush dX9_feed_64 ⟨by decide, by decide, by decide⟩ ?_
    refine a_iload (j := 1) dX9_feed_66 rfl ?_
    refine a_iconst dX9_feed_68 ⟨by decide, by decide⟩ ?_
    refine a_irem (z := 2) dX9_feed_69 (by decide) (by decide) ?_
    refine a_imul (z := 16) dX9_feed_70 (w_ok (by omega) (by omega)) ?_
    refine a_isub (z := 8) dX9_feed_71 (w_ok (by omega) (by omega)) ?_
    refine a_ishr (z := (shr32 c 8)) dX9_feed_72 rfl ?_
    refine a_sipush dX9_feed_73 ⟨by decide, by decide, by decide⟩ ?_
    refine a_iand (z := (and32 (shr32 c 8) 255)) dX9_feed_76 rfl ?_
    refine b_iastore (a := 137) (Int.toNat (v1 + 10)) dX9_feed_77 (by decide) rfl (by omega) (by omega) (sp_nil rfl _) ?_
    refine a_iinc (j := 1) (z' := 11) (lv' := [(4, vI 11), (5, vI c), (0, vA 123), (1, vI a), (2, vI b), (3, vI c)]) dX9_feed_78 rfl (w_ok (by omega) (by omega)) (by decide) rfl ?_
    refine a_goto (tgt := 18) dX9_feed_81 (by decide) ?_
    refine a_iload (j := 0) dX9_feed_18 rfl ?_
    refine a_bipush dX9_feed_20 ⟨by decide, by decide, by decide⟩ ?_
    refine a_icmp_ge (tgt := 84) dX9_feed_22 (by decide) (fun c => absurd c (by decide)) (fun _ => ?_)
    refine a_iload (j := 0) dX9_feed_25 rfl ?_
    refine a_iconst dX9_feed_27 ⟨by decide, by decide⟩ ?_
    refine a_icmp_ge (tgt := 35) dX9_feed_28 (by decide) (fun _ => ?_) (fun c => absurd c (by decide))
    refine a_iload (j := 0) dX9_feed_35 rfl ?_
    refine a_bipush dX9_feed_37 ⟨by decide, by decide, by decide⟩ ?_
    refine a_icmp_ge (tgt := 46) dX9_feed_39 (by decide) (fun _ => ?_) (fun c => absurd c (by decide))
    refine a_iload_n (j := 5) dX9_feed_46 rfl rfl ?_
    refine a_istore (lv' := [(5, vI c), (4, vI 11), (0, vA 123), (1, vI a), (2, vI b), (3, vI c)]) dX9_feed_47 (by decide) rfl ?_
    refine a_aload_n (j := 2) dX9_feed_49 rfl rfl (Nat.le_of_ble_eq_true rfl) ?_
    refine b_getp (a := 123) (p := 137) dX9_feed_50 fwX9_50 (by decide) rfl (by decide) rfl rfl ?_
    refine a_aload_n (j := 2) dX9_feed_53 rfl rfl (Nat.le_of_ble_eq_true rfl) ?_
    refine b_get (a := 123) (z := v1) (t := 0) dX9_feed_54 fwX9_229 (by decide) rfl (by decide) rfl rfl ((up2_ne (by omega)).trans ((up2_ne (by omega)).trans ((up2_ne (by omega)).trans ((up2_ne (by omega)).trans ((up2_ne (by omega)).trans ((up2_ne (by omega)).trans ((up2_ne (by omega)).trans ((up2_ne (by omega)).trans ((up2_ne (by omega)).trans ((up2_ne (by omega)).trans ((up2_ne (by omega)).trans e1))))))))))) ?_
    refine a_iload (j := 1) dX9_feed_57 rfl ?_
    refine a_iadd (z := (v1 + 11)) dX9_feed_59 (w_ok (by omega) (by omega)) ?_
    refine a_iload (j := 0) dX9_feed_60 rfl ?_
    refine a_bipush dX9_feed_62 ⟨by decide, by decide, by decide⟩ ?_
    refine a_bipush dX9_feed_64 ⟨by decide, by decide, by decide⟩ ?_
    refine a_iload (j := 1) dX9_feed_66 rfl ?_
    refine a_iconst dX9_feed_68 ⟨by decide, by decide⟩ ?_
    refine a_irem (z := 3) dX9_feed_69 (by decide) (by decide) ?_
    refine a_imul (z := 24) dX9_feed_70 (w_ok (by omega) (by omega)) ?_
    refine a_isub (z := 0) dX9_feed_71 (w_ok (by omega) (by omega)) ?_
    refine a_ishr (z := (shr32 c 0)) dX9_feed_72 rfl ?_
    refine a_sipush dX9_feed_73 ⟨by decide, by decide, by decide⟩ ?_
    refine a_iand (z := (and32 (shr32 c 0) 255)) dX9_feed_76 rfl ?_
    refine b_iastore (a := 137) (Int.toNat (v1 + 11)) dX9_feed_77 (by decide) rfl (by omega) (by omega) (sp_nil rfl _) ?_
    refine a_iinc (j := 1) (z' := 12) (lv' := [(4, vI 12), (5, vI c), (0, vA 123), (1, vI a), (2, vI b), (3, vI c)]) dX9_feed_78 rfl (w_ok (by omega) (by omega)) (by decide) rfl ?_
    refine a_goto (tgt := 18) dX9_feed_81 (by decide) ?_
    refine a_iload (j := 0) dX9_feed_18 rfl ?_
    refine a_bipush dX9_feed_20 ⟨by decide, by decide, by decide⟩ ?_
    refine a_icmp_ge (tgt := 84) dX9_feed_22 (by decide) (fun _ => ?_) (fun c => absurd c (by decide))
    refine a_aload_n (j := 2) dX9_feed_84 rfl rfl (Nat.le_of_ble_eq_true rfl) ?_
    refine a_dup dX9_feed_85 (fun h => nomatch h) ?_
    refine b_get (a := 123) (z := v1) (t := 0) dX9_feed_86 fwX9_229 (by decide) rfl (by decide) rfl rfl ((up2_ne (by omega)).trans ((up2_ne (by omega)).trans ((up2_ne (by omega)).trans ((up2_ne (by omega)).trans ((up2_ne (by omega)).trans ((up2_ne (by omega)).trans ((up2_ne (by omega)).trans ((up2_ne (by omega)).trans ((up2_ne (by omega)).trans ((up2_ne (by omega)).trans ((up2_ne (by omega)).trans ((up2_ne (by omega)).trans e1)))))))))))) ?_
    refine a_bipush dX9_feed_89 ⟨by decide, by decide, by decide⟩ ?_
    refine a_iadd (z := (v1 + 12)) dX9_feed_91 (w_ok (by omega) (by omega)) ?_
    refine b_put (a := 123) (v := vI (v1 + 12)) dX9_feed_92 pwX9_229 (fun h => nomatch h) (by decide) rfl (by decide) rfl rfl (fit_int _) ?_
    show Aj γ mX9_feed d 0 0 Post 95 [(4, vI 12), (5, vI c), (0, vA 123), (1, vI a), (2, vI b), (3, vI c)] [] (mk (up2 (up2 (up2 (up2 (up2 (up2 (up2 (up2 (up2 (up2 (up2 (up2 (up2 h 137 (Int.toNat (v1 + 0)) (and32 (shr32 a 24) 255)) 137 (Int.toNat (v1 + 1)) (and32 (shr32 a 16) 255)) 137 (Int.toNat (v1 + 2)) (and32 (shr32 a 8) 255)) 137 (Int.toNat (v1 + 3)) (and32 (shr32 a 0) 255)) 137 (Int.toNat (v1 + 4)) (and32 (shr32 b 24) 255)) 137 (Int.toNat (v1 + 5)) (and32 (shr32 b 16) 255)) 137 (Int.toNat (v1 + 6)) (and32 (shr32 b 8) 255)) 137 (Int.toNat (v1 + 7)) (and32 (shr32 b 0) 255)) 137 (Int.toNat (v1 + 8)) (and32 (shr32 c 24) 255)) 137 (Int.toNat (v1 + 9)) (and32 (shr32 c 16) 255)) 137 (Int.toNat (v1 + 10)) (and32 (shr32 c 8) 255)) 137 (Int.toNat (v1 + 11)) (and32 (shr32 c 0) 255)) 123 17 (v1 + 12)) τ)
    refine a_aload_n (j := 2) dX9_feed_95 rfl rfl (Nat.le_of_ble_eq_true rfl) ?_
    refine b_get (a := 123) (z := (v1 + 12)) (t := 0) dX9_feed_96 fwX9_229 (by decide) rfl (by decide) rfl rfl up2_at ?_
    exact a_iret dX9_feed_99 rfl (k1 c9_1)
  · refine a_ldc (z := (-1000000003)) dX9_feed_12 kwX9_147 ⟨by decide, by decide, by decide⟩ ?_
    exact a_iret dX9_feed_14 rfl (k2 c9_1)
theorem l_sheet {γ : GT} {d : Nat} {s q n z : Int} {f₀ : Nat → Int} {h : Nat → Nat → Int} {τ : List AC} {Post : Option AV → List AC → Prop} (hs : 0 ≤ s ∧ s ≤ 3) (ez : h 146 (Int.toNat s) = z) (kQ : Post (some (vI z)) (mk (upR h 147 (segF 0 (Int.toNat (24 * s)) 24 f₀)) τ)) :
    ∀ (f i : Nat), i ≤ 24 → 24 < i + f → Aj γ mX9_sheet d 0 0 Post 66 [(4, vI ((i : Nat) : Int)), (0, vA 123), (1, vI s), (2, vI q), (3, vI n)] [] (mk (upR h 147 (segF 0 (Int.toNat (24 * s)) i f₀)) τ) := by
  intro f
  induction f with
  | zero => intro i h1 h2; omega
  | succ f ih =>
    intro i h1 h2
    refine a_iload (j := 0) dX9_sheet_66 rfl ?_
    refine a_bipush dX9_sheet_68 ⟨by decide, by decide, by decide⟩ ?_
    refine a_icmp_ge (tgt := 92) dX9_sheet_70 (by decide) (fun c70_1 => ?_) (fun c70_1 => ?_)
    · refine a_aload_n (j := 1) dX9_sheet_92 rfl rfl (Nat.le_of_ble_eq_true rfl) ?_
      refine b_getp (a := 123) (p := 146) dX9_sheet_93 fwX9_79 (by decide) rfl (by decide) rfl rfl ?_
      refine a_iload_n (j := 2) dX9_sheet_96 rfl rfl ?_
      refine b_iaload (a := 146) (z := z) (Int.toNat s) dX9_sheet_97 (by decide) rfl (by omega) (by omega) (sp_nil rfl _) ((upR_ne (by decide)).trans ez) (fun r97_2 => ?_)
      exact a_iret dX9_sheet_98 rfl (by obtain rfl : i = 24 := (by omega); exact kQ)
    · refine a_aload_n (j := 1) dX9_sheet_73 rfl rfl (Nat.le_of_ble_eq_true rfl) ?_
      refine b_getp (a := 123) (p := 147) dX9_sheet_74 fwX9_82 (by decide) rfl (by decide) rfl rfl ?_
      refine a_bipush dX9_sheet_77 ⟨by decide, by decide, by decide⟩ ?_
      refine a_iload_n (j := 2) dX9_sheet_79 rfl rfl ?_
      refine a_imul (z := (24 * s)) dX9_sheet_80 (w_ok (by omega) (by omega)) ?_
      refine a_iload (j := 0) dX9_sheet_81 rfl ?_
      refine a_iadd (z := ((24 * s) + ((i : Nat) : Int))) dX9_sheet_83 (w_ok (by omega) (by omega)) ?_
      refine a_iconst dX9_sheet_84 ⟨by decide, by decide⟩ ?_
      refine b_iastore (a := 147) (Int.toNat ((24 * s) + ((i : Nat) : Int))) dX9_sheet_85 (by decide) rfl (by omega) (by omega) (sp_nil rfl _) ?_
      refine a_iinc (j := 0) (z' := ((i + 1 : Nat) : Int)) (lv' := [(4, vI ((i + 1 : Nat) : Int)), (0, vA 123), (1, vI s), (2, vI q), (3, vI n)]) dX9_sheet_86 rfl (w_okN (by omega) (by omega) (by omega)) (by decide) rfl ?_
      refine a_goto (tgt := 66) dX9_sheet_89 (by decide) ?_
      rw [up2_R, segF_s (by omega)]
      refine a_lv (lv' := [(4, vI (((i + 1) : Nat) : Int)), (0, vA 123), (1, vI s), (2, vI q), (3, vI n)]) (by intro q hq; simp only [List.mem_cons, List.not_mem_nil, or_false] at hq ⊢; rcases hq with rfl | rfl | rfl | rfl | rfl <;> simp) (ih (i + 1) (by omega) (by omega))
set_option maxHeartbeats 8000000 in
theorem c_X9_sheet {γ : GT} {d : Nat} {s q n : Int} {h : Nat → Nat → Int} {τ : List AC} {Post : Option AV → List AC → Prop} (hd : 2 ≤ d) {f1 : Nat → Int} (r1 : h 147 = f1) (k1 : (0 ≤ s ∧ s ≤ 3) → ((-1) ≤ q ∧ q ≤ 1) → (q < 0) → (q < 0) → (0 ≤ q) → Post (some (vI n)) (mk (upR (up2 (up2 h 145 (Int.toNat s) q) 146 (Int.toNat s) n) 147 (segF 0 (Int.toNat (24 * s)) 24 f1)) τ)) (k2 : (0 ≤ s ∧ s ≤ 3) → ((-1) ≤ q ∧ q ≤ 1) → (q < 0) → (q < 0) → (¬ 0 ≤ q) → Post (some (vI 0)) (mk (upR (up2 (up2 h 145 (Int.toNat s) q) 146 (Int.toNat s) 0) 147 (segF 0 (Int.toNat (24 * s)) 24 f1)) τ)) (k3 : (0 ≤ s ∧ s ≤ 3) → ((-1) ≤ q ∧ q ≤ 1) → (q < 0) → (¬ q < 0) → (0 ≤ n) → (0 ≤ q) → Post (some (vI n)) (mk (upR (up2 (up2 h 145 (Int.toNat s) q) 146 (Int.toNat s) n) 147 (segF 0 (Int.toNat (24 * s)) 24 f1)) τ)) (k4 : (0 ≤ s ∧ s ≤ 3) → ((-1) ≤ q ∧ q ≤ 1) → (q < 0) → (¬ q < 0) → (0 ≤ n) → (¬ 0 ≤ q) → Post (some (vI 0)) (mk (upR (up2 (up2 h 145 (Int.toNat s) q) 146 (Int.toNat s) 0) 147 (segF 0 (Int.toNat (24 * s)) 24 f1)) τ)) (k5 : (0 ≤ s ∧ s ≤ 3) → ((-1) ≤ q ∧ q ≤ 1) → (q < 0) → (¬ q < 0) → (¬ 0 ≤ n) → Post (some (vI (-1000000014))) (mk h τ)) (k6 : (0 ≤ s ∧ s ≤ 3) → ((-1) ≤ q ∧ q ≤ 1) → (¬ q < 0) → (n ≤ 24) → (q < 0) → (0 ≤ q) → Post (some (vI n)) (mk (upR (up2 (up2 h 145 (Int.toNat s) q) 146 (Int.toNat s) n) 147 (segF 0 (Int.toNat (24 * s)) 24 f1)) τ)) (k7 : (0 ≤ s ∧ s ≤ 3) → ((-1) ≤ q ∧ q ≤ 1) → (¬ q < 0) → (n ≤ 24) → (q < 0) → (¬ 0 ≤ q) → Post (some (vI 0)) (mk (upR (up2 (up2 h 145 (Int.toNat s) q) 146 (Int.toNat s) 0) 147 (segF 0 (Int.toNat (24 * s)) 24 f1)) τ)) (k8 : (0 ≤ s ∧ s ≤ 3) → ((-1) ≤ q ∧ q ≤ 1) → (¬ q < 0) → (n ≤ 24) → (¬ q < 0) → (0 ≤ n) → (0 ≤ q) → Post (some (vI n)) (mk (upR (up2 (up2 h 145 (Int.toNat s) q) 146 (Int.toNat s) n) 147 (segF 0 (Int.toNat (24 * s)) 24 f1)) τ)) (k9 : (0 ≤ s ∧ s ≤ 3) → ((-1) ≤ q ∧ q ≤ 1) → (¬ q < 0) → (n ≤ 24) → (¬ q < 0) → (0 ≤ n) → (¬ 0 ≤ q) → Post (some (vI 0)) (mk (upR (up2 (up2 h 145 (Int.toNat s) q) 146 (Int.toNat s) 0) 147 (segF 0 (Int.toNat (24 * s)) 24 f1)) τ)) (k10 : (0 ≤ s ∧ s ≤ 3) → ((-1) ≤ q ∧ q ≤ 1) → (¬ q < 0) → (n ≤ 24) → (¬ q < 0) → (¬ 0 ≤ n) → Post (some (vI (-1000000014))) (mk h τ)) (k11 : (0 ≤ s ∧ s ≤ 3) → ((-1) ≤ q ∧ q ≤ 1) → (¬ q < 0) → (¬ n ≤ 24) → Post (some (vI (-1000000001))) (mk h τ)) (k12 : (0 ≤ s ∧ s ≤ 3) → (¬ ((-1) ≤ q ∧ q ≤ 1)) → Post (some (vI (-1000000001))) (mk h τ)) (k13 : (¬ (0 ≤ s ∧ s ≤ 3)) → Post (some (vI (-1000000001))) (mk h τ)) : Cj γ mX9_sheet d 0 0 [vA 123, vI s, vI q, vI n] (mk h τ) Post := by
  refine c_of (by decide) (Nat.le_of_ble_eq_true rfl) ?_
  show Aj γ mX9_sheet d 0 0 Post 0 [(0, vA 123), (1, vI s), (2, vI q), (3, vI n)] [] (mk h τ)
  refine a_iload_n (j := 1) dX9_sheet_0 rfl rfl ?_
  refine a_callS (d' := d - 1) (mc' := 0) (ms' := 0) (mc1 := 0) (ms1 := 0) (st := []) [vI s] dX9_sheet_1 mwX9_isSheet lkX9_312 rfl (Nat.le_of_ble_eq_true rfl) (by omega) rfl rfl (c_X9_isSheet  (by omega)    (fun t1_1 => ?_) (fun t1_1 => ?_))
  · have t1_1 : 0 ≤ s ∧ s ≤ 3 := t1_1
    show Aj γ mX9_sheet d 0 0 Post 4 [(0, vA 123), (1, vI s), (2, vI q), (3, vI n)] [vI 1] (mk h τ)
    refine a_if_eq (tgt := 26) dX9_sheet_4 (by decide) (fun c => absurd c (by decide)) (fun _ => ?_)
    refine a_iload_n (j := 2) dX9_sheet_7 rfl rfl ?_
    refine a_iconst dX9_sheet_8 ⟨by decide, by decide⟩ ?_
    refine a_iconst dX9_sheet_9 ⟨by decide, by decide⟩ ?_
    refine a_callS (d' := d - 1) (mc' := 0) (ms' := 0) (mc1 := 0) (ms1 := 0) (st := []) [vI q, vI (-1), vI 1] dX9_sheet_10 mwX9_in lkX9_103 rfl (Nat.le_of_ble_eq_true rfl) (by omega) rfl rfl (c_X9_in  (by omega)    (fun t10_2 => ?_) (fun t10_2 => ?_))
    · have t10_2 : (-1) ≤ q ∧ q ≤ 1 := t10_2
      show Aj γ mX9_sheet d 0 0 Post 13 [(0, vA 123), (1, vI s), (2, vI q), (3, vI n)] [vI 1] (mk h τ)
      refine a_if_eq (tgt := 26) dX9_sheet_13 (by decide) (fun c => absurd c (by decide)) (fun _ => ?_)
      refine a_iload_n (j := 2) dX9_sheet_16 rfl rfl ?_
      refine a_if_lt (tgt := 29) dX9_sheet_17 (by decide) (fun c17_3 => ?_) (fun c17_3 => ?_)
      · refine a_iload_n (j := 2) dX9_sheet_29 rfl rfl ?_
        refine a_if_lt (tgt := 41) dX9_sheet_30 (by decide) (fun c30_4 => ?_) (fun c30_4 => ?_)
        · refine a_aload_n (j := 0) dX9_sheet_41 rfl rfl (Nat.le_of_ble_eq_true rfl) ?_
          refine b_getp (a := 123) (p := 145) dX9_sheet_42 fwX9_76 (by decide) rfl (by decide) rfl rfl ?_
          refine a_iload_n (j := 1) dX9_sheet_45 rfl rfl ?_
          refine a_iload_n (j := 2) dX9_sheet_46 rfl rfl ?_
          refine b_iastore (a := 145) (Int.toNat s) dX9_sheet_47 (by decide) rfl (by omega) (by omega) (sp_nil rfl _) ?_
          refine a_aload_n (j := 0) dX9_sheet_48 rfl rfl (Nat.le_of_ble_eq_true rfl) ?_
          refine b_getp (a := 123) (p := 146) dX9_sheet_49 fwX9_79 (by decide) rfl (by decide) rfl rfl ?_
          refine a_iload_n (j := 1) dX9_sheet_52 rfl rfl ?_
          refine a_iload_n (j := 2) dX9_sheet_53 rfl rfl ?_
          refine a_if_ge (tgt := 61) dX9_sheet_54 (by decide) (fun c54_5 => ?_) (fun c54_5 => ?_)
          · refine a_iload_n (j := 3) dX9_sheet_61 rfl rfl ?_
            refine b_iastore (a := 146) (Int.toNat s) dX9_sheet_62 (by decide) rfl (by omega) (by omega) (sp_nil rfl _) ?_
            refine a_iconst dX9_sheet_63 ⟨by decide, by decide⟩ ?_
            refine a_istore (lv' := [(4, vI 0), (0, vA 123), (1, vI s), (2, vI q), (3, vI n)]) dX9_sheet_64 (by decide) rfl ?_
            have hl := l_sheet (γ := γ) (d := d) (τ := τ) (Post := Post) (h := (up2 (up2 h 145 (Int.toNat s) q) 146 (Int.toNat s) n)) (s := s) (q := q) (n := n) (z := n) (f₀ := f1) (by omega) up2_at (k1 t1_1 t10_2 c17_3 c30_4 c54_5) 25 0 (by omega) (by omega)
            rw [segF_0, upR_id ((up2_row (by omega)).trans ((up2_row (by omega)).trans r1))] at hl
            exact hl
          · refine a_iconst dX9_sheet_57 ⟨by decide, by decide⟩ ?_
            refine a_goto (tgt := 62) dX9_sheet_58 (by decide) ?_
            refine b_iastore (a := 146) (Int.toNat s) dX9_sheet_62 (by decide) rfl (by omega) (by omega) (sp_nil rfl _) ?_
            refine a_iconst dX9_sheet_63 ⟨by decide, by decide⟩ ?_
            refine a_istore (lv' := [(4, vI 0), (0, vA 123), (1, vI s), (2, vI q), (3, vI n)]) dX9_sheet_64 (by decide) rfl ?_
            have hl := l_sheet (γ := γ) (d := d) (τ := τ) (Post := Post) (h := (up2 (up2 h 145 (Int.toNat s) q) 146 (Int.toNat s) 0)) (s := s) (q := q) (n := n) (z := 0) (f₀ := f1) (by omega) up2_at (k2 t1_1 t10_2 c17_3 c30_4 c54_5) 25 0 (by omega) (by omega)
            rw [segF_0, upR_id ((up2_row (by omega)).trans ((up2_row (by omega)).trans r1))] at hl
            exact hl
        · refine a_iload_n (j := 3) dX9_sheet_33 rfl rfl ?_
          refine a_if_ge (tgt := 41) dX9_sheet_34 (by decide) (fun c34_6 => ?_) (fun c34_6 => ?_)
          · refine a_aload_n (j := 0) dX9_sheet_41 rfl rfl (Nat.le_of_ble_eq_true rfl) ?_
            refine b_getp (a := 123) (p := 145) dX9_sheet_42 fwX9_76 (by decide) rfl (by decide) rfl rfl ?_
            refine a_iload_n (j := 1) dX9_sheet_45 rfl rfl ?_
            refine a_iload_n (j := 2) dX9_sheet_46 rfl rfl ?_
            refine b_iastore (a := 145) (Int.toNat s) dX9_sheet_47 (by decide) rfl (by omega) (by omega) (sp_nil rfl _) ?_
            refine a_aload_n (j := 0) dX9_sheet_48 rfl rfl (Nat.le_of_ble_eq_true rfl) ?_
            refine b_getp (a := 123) (p := 146) dX9_sheet_49 fwX9_79 (by decide) rfl (by decide) rfl rfl ?_
            refine a_iload_n (j := 1) dX9_sheet_52 rfl rfl ?_
            refine a_iload_n (j := 2) dX9_sheet_53 rfl rfl ?_
            refine a_if_ge (tgt := 61) dX9_sheet_54 (by decide) (fun c54_7 => ?_) (fun c54_7 => ?_)
            · refine a_iload_n (j := 3) dX9_sheet_61 rfl rfl ?_
              refine b_iastore (a := 146) (Int.toNat s) dX9_sheet_62 (by decide) rfl (by omega) (by omega) (sp_nil rfl _) ?_
              refine a_iconst dX9_sheet_63 ⟨by decide, by decide⟩ ?_
              refine a_istore (lv' := [(4, vI 0), (0, vA 123), (1, vI s), (2, vI q), (3, vI n)]) dX9_sheet_64 (by decide) rfl ?_
              have hl := l_sheet (γ := γ) (d := d) (τ := τ) (Post := Post) (h := (up2 (up2 h 145 (Int.toNat s) q) 146 (Int.toNat s) n)) (s := s) (q := q) (n := n) (z := n) (f₀ := f1) (by omega) up2_at (k3 t1_1 t10_2 c17_3 c30_4 c34_6 c54_7) 25 0 (by omega) (by omega)
              rw [segF_0, upR_id ((up2_row (by omega)).trans ((up2_row (by omega)).trans r1))] at hl
              exact hl
            · refine a_iconst dX9_sheet_57 ⟨by decide, by decide⟩ ?_
              refine a_goto (tgt := 62) dX9_sheet_58 (by decide) ?_
              refine b_iastore (a := 146) (Int.toNat s) dX9_sheet_62 (by decide) rfl (by omega) (by omega) (sp_nil rfl _) ?_
              refine a_iconst dX9_sheet_63 ⟨by decide, by decide⟩ ?_
              refine a_istore (lv' := [(4, vI 0), (0, vA 123), (1, vI s), (2, vI q), (3, vI n)]) dX9_sheet_64 (by decide) rfl ?_
              have hl := l_sheet (γ := γ) (d := d) (τ := τ) (Post := Post) (h := (up2 (up2 h 145 (Int.toNat s) q) 146 (Int.toNat s) 0)) (s := s) (q := q) (n := n) (z := 0) (f₀ := f1) (by omega) up2_at (k4 t1_1 t10_2 c17_3 c30_4 c34_6 c54_7) 25 0 (by omega) (by omega)
              rw [segF_0, upR_id ((up2_row (by omega)).trans ((up2_row (by omega)).trans r1))] at hl
              exact hl
          · refine a_ldcw (z := (-1000000014)) dX9_sheet_37 kwX9_315 ⟨by decide, by decide, by decide⟩ ?_
            exact a_iret dX9_sheet_40 rfl (k5 t1_1 t10_2 c17_3 c30_4 c34_6)
      · refine a_iload_n (j := 3) dX9_sheet_20 rfl rfl ?_
        refine a_bipush dX9_sheet_21 ⟨by decide, by decide, by decide⟩ ?_
        refine a_icmp_le (tgt := 29) dX9_sheet_23 (by decide) (fun c23_8 => ?_) (fun c23_8 => ?_)
        · refine a_iload_n (j := 2) dX9_sheet_29 rfl rfl ?_
          refine a_if_lt (tgt := 41) dX9_sheet_30 (by decide) (fun c30_9 => ?_) (fun c30_9 => ?_)
          · refine a_aload_n (j := 0) dX9_sheet_41 rfl rfl (Nat.le_of_ble_eq_true rfl) ?_
            refine b_getp (a := 123) (p := 145) dX9_sheet_42 fwX9_76 (by decide) rfl (by decide) rfl rfl ?_
            refine a_iload_n (j := 1) dX9_sheet_45 rfl rfl ?_
            refine a_iload_n (j := 2) dX9_sheet_46 rfl rfl ?_
            refine b_iastore (a := 145) (Int.toNat s) dX9_sheet_47 (by decide) rfl (by omega) (by omega) (sp_nil rfl _) ?_
            refine a_aload_n (j := 0) dX9_sheet_48 rfl rfl (Nat.le_of_ble_eq_true rfl) ?_
            refine b_getp (a := 123) (p := 146) dX9_sheet_49 fwX9_79 (by decide) rfl (by decide) rfl rfl ?_
            refine a_iload_n (j := 1) dX9_sheet_52 rfl rfl ?_
            refine a_iload_n (j := 2) dX9_sheet_53 rfl rfl ?_
            refine a_if_ge (tgt := 61) dX9_sheet_54 (by decide) (fun c54_10 => ?_) (fun c54_10 => ?_)
            · refine a_iload_n (j := 3) dX9_sheet_61 rfl rfl ?_
              refine b_iastore (a := 146) (Int.toNat s) dX9_sheet_62 (by decide) rfl (by omega) (by omega) (sp_nil rfl _) ?_
              refine a_iconst dX9_sheet_63 ⟨by decide, by decide⟩ ?_
              refine a_istore (lv' := [(4, vI 0), (0, vA 123), (1, vI s), (2, vI q), (3, vI n)]) dX9_sheet_64 (by decide) rfl ?_
              have hl := l_sheet (γ := γ) (d := d) (τ := τ) (Post := Post) (h := (up2 (up2 h 145 (Int.toNat s) q) 146 (Int.toNat s) n)) (s := s) (q := q) (n := n) (z := n) (f₀ := f1) (by omega) up2_at (k6 t1_1 t10_2 c17_3 c23_8 c30_9 c54_10) 25 0 (by omega) (by omega)
              rw [segF_0, upR_id ((up2_row (by omega)).trans ((up2_row (by omega)).trans r1))] at hl
              exact hl
            · refine a_iconst dX9_sheet_57 ⟨by decide, by decide⟩ ?_
              refine a_goto (tgt := 62) dX9_sheet_58 (by decide) ?_
              refine b_iastore (a := 146) (Int.toNat s) dX9_sheet_62 (by decide) rfl (by omega) (by omega) (sp_nil rfl _) ?_
              refine a_iconst dX9_sheet_63 ⟨by decide, by decide⟩ ?_
              refine a_istore (lv' := [(4, vI 0), (0, vA 123), (1, vI s), (2, vI q), (3, vI n)]) dX9_sheet_64 (by decide) rfl ?_
              have hl := l_sheet (γ := γ) (d := d) (τ := τ) (Post := Post) (h := (up2 (up2 h 145 (Int.toNat s) q) 146 (Int.toNat s) 0)) (s := s) (q := q) (n := n) (z := 0) (f₀ := f1) (by omega) up2_at (k7 t1_1 t10_2 c17_3 c23_8 c30_9 c54_10) 25 0 (by omega) (by omega)
              rw [segF_0, upR_id ((up2_row (by omega)).trans ((up2_row (by omega)).trans r1))] at hl
              exact hl
          · refine a_iload_n (j := 3) dX9_sheet_33 rfl rfl ?_
            refine a_if_ge (tgt := 41) dX9_sheet_34 (by decide) (fun c34_11 => ?_) (fun c34_11 => ?_)
            · refine a_aload_n (j := 0) dX9_sheet_41 rfl rfl (Nat.le_of_ble_eq_true rfl) ?_
              refine b_getp (a := 123) (p := 145) dX9_sheet_42 fwX9_76 (by decide) rfl (by decide) rfl rfl ?_
              refine a_iload_n (j := 1) dX9_sheet_45 rfl rfl ?_
              refine a_iload_n (j := 2) dX9_sheet_46 rfl rfl ?_
              refine b_iastore (a := 145) (Int.toNat s) dX9_sheet_47 (by decide) rfl (by omega) (by omega) (sp_nil rfl _) ?_
              refine a_aload_n (j := 0) dX9_sheet_48 rfl rfl (Nat.le_of_ble_eq_true rfl) ?_
              refine b_getp (a := 123) (p := 146) dX9_sheet_49 fwX9_79 (by decide) rfl (by decide) rfl rfl ?_
              refine a_iload_n (j := 1) dX9_sheet_52 rfl rfl ?_
              refine a_iload_n (j := 2) dX9_sheet_53 rfl rfl ?_
              refine a_if_ge (tgt := 61) dX9_sheet_54 (by decide) (fun c54_12 => ?_) (fun c54_12 => ?_)
              · refine a_iload_n (j := 3) dX9_sheet_61 rfl rfl ?_
                refine b_iastore (a := 146) (Int.toNat s) dX9_sheet_62 (by decide) rfl (by omega) (by omega) (sp_nil rfl _) ?_
                refine a_iconst dX9_sheet_63 ⟨by decide, by decide⟩ ?_
                refine a_istore (lv' := [(4, vI 0), (0, vA 123), (1, vI s), (2, vI q), (3, vI n)]) dX9_sheet_64 (by decide) rfl ?_
                have hl := l_sheet (γ := γ) (d := d) (τ := τ) (Post := Post) (h := (up2 (up2 h 145 (Int.toNat s) q) 146 (Int.toNat s) n)) (s := s) (q := q) (n := n) (z := n) (f₀ := f1) (by omega) up2_at (k8 t1_1 t10_2 c17_3 c23_8 c30_9 c34_11 c54_12) 25 0 (by omega) (by omega)
                rw [segF_0, upR_id ((up2_row (by omega)).trans ((up2_row (by omega)).trans r1))] at hl
                exact hl
              · refine a_iconst dX9_sheet_57 ⟨by decide, by decide⟩ ?_
                refine a_goto (tgt := 62) dX9_sheet_58 (by decide) ?_
                refine b_iastore (a := 146) (Int.toNat s) dX9_sheet_62 (by decide) rfl (by omega) (by omega) (sp_nil rfl _) ?_
                refine a_iconst dX9_sheet_63 ⟨by decide, by decide⟩ ?_
                refine a_istore (lv' := [(4, vI 0), (0, vA 123), (1, vI s), (2, vI q), (3, vI n)]) dX9_sheet_64 (by decide) rfl ?_
                have hl := l_sheet (γ := γ) (d := d) (τ := τ) (Post := Post) (h := (up2 (up2 h 145 (Int.toNat s) q) 146 (Int.toNat s) 0)) (s := s) (q := q) (n := n) (z := 0) (f₀ := f1) (by omega) up2_at (k9 t1_1 t10_2 c17_3 c23_8 c30_9 c34_11 c54_12) 25 0 (by omega) (by omega)
                rw [segF_0, upR_id ((up2_row (by omega)).trans ((up2_row (by omega)).trans r1))] at hl
                exact hl
            · refine a_ldcw (z := (-1000000014)) dX9_sheet_37 kwX9_315 ⟨by decide, by decide, by decide⟩ ?_
              exact a_iret dX9_sheet_40 rfl (k10 t1_1 t10_2 c17_3 c23_8 c30_9 c34_11)
        · refine a_ldc (z := (-1000000001)) dX9_sheet_26 kwX9_146 ⟨by decide, by decide, by decide⟩ ?_
          exact a_iret dX9_sheet_28 rfl (k11 t1_1 t10_2 c17_3 c23_8)
    · have t10_2 : ¬ ((-1) ≤ q ∧ q ≤ 1) := t10_2
      show Aj γ mX9_sheet d 0 0 Post 13 [(0, vA 123), (1, vI s), (2, vI q), (3, vI n)] [vI 0] (mk h τ)
      refine a_if_eq (tgt := 26) dX9_sheet_13 (by decide) (fun _ => ?_) (fun c => absurd c (by decide))
      refine a_ldc (z := (-1000000001)) dX9_sheet_26 kwX9_146 ⟨by decide, by decide, by decide⟩ ?_
      exact a_iret dX9_sheet_28 rfl (k12 t1_1 t10_2)
  · have t1_1 : ¬ (0 ≤ s ∧ s ≤ 3) := t1_1
    show Aj γ mX9_sheet d 0 0 Post 4 [(0, vA 123), (1, vI s), (2, vI q), (3, vI n)] [vI 0] (mk h τ)
    refine a_if_eq (tgt := 26) dX9_sheet_4 (by decide) (fun _ => ?_) (fun c => absurd c (by decide))
    refine a_ldc (z := (-1000000001)) dX9_sheet_26 kwX9_146 ⟨by decide, by decide, by decide⟩ ?_
    exact a_iret dX9_sheet_28 rfl (k13 t1_1)
theorem l_lay {γ : GT} {d : Nat} {s k z : Int} {f₀ g₀ : Nat → Int} {h : Nat → Nat → Int} {τ : List AC} {Post : Option AV → List AC → Prop} (hs : 0 ≤ s ∧ s ≤ 4) (hk : 0 ≤ k ∧ k ≤ 3) (ef : h 147 = f₀) (kQ : Post (some (vI z)) (mk (upR h 151 (cpy f₀ g₀ (Int.toNat (24 * k)) (Int.toNat (24 * s)) 24)) τ)) :
    ∀ (f i : Nat), i ≤ 24 → 24 < i + f → Aj γ mX9_lay d 0 0 Post 145 [(5, vI ((i : Nat) : Int)), (4, vI z), (0, vA 123), (1, vI s), (2, vI 2), (3, vI k)] [] (mk (upR h 151 (cpy f₀ g₀ (Int.toNat (24 * k)) (Int.toNat (24 * s)) i)) τ) := by
  intro f
  induction f with
  | zero => intro i h1 h2; omega
  | succ f ih =>
    intro i h1 h2
    refine a_iload (j := 0) dX9_lay_145 rfl ?_
    refine a_bipush dX9_lay_147 ⟨by decide, by decide, by decide⟩ ?_
    refine a_icmp_ge (tgt := 187) dX9_lay_149 (by decide) (fun c149_1 => ?_) (fun c149_1 => ?_)
    · refine a_iload (j := 1) dX9_lay_187 rfl ?_
      exact a_iret dX9_lay_189 rfl (by obtain rfl : i = 24 := (by omega); exact kQ)
    · refine a_iload_n (j := 4) dX9_lay_152 rfl rfl ?_
      refine a_iconst dX9_lay_153 ⟨by decide, by decide⟩ ?_
      refine a_icmp_ne (tgt := 187) dX9_lay_154 (by decide) (fun c => absurd c (by decide)) (fun _ => ?_)
      refine a_aload_n (j := 2) dX9_lay_157 rfl rfl (Nat.le_of_ble_eq_true rfl) ?_
      refine b_getp (a := 123) (p := 151) dX9_lay_158 fwX9_94 (by decide) rfl (by decide) rfl rfl ?_
      refine a_bipush dX9_lay_161 ⟨by decide, by decide, by decide⟩ ?_
      refine a_iload_n (j := 3) dX9_lay_163 rfl rfl ?_
      refine a_imul (z := (24 * s)) dX9_lay_164 (w_ok (by omega) (by omega)) ?_
      refine a_iload (j := 0) dX9_lay_165 rfl ?_
      refine a_iadd (z := ((24 * s) + ((i : Nat) : Int))) dX9_lay_167 (w_ok (by omega) (by omega)) ?_
      refine a_aload_n (j := 2) dX9_lay_168 rfl rfl (Nat.le_of_ble_eq_true rfl) ?_
      refine b_getp (a := 123) (p := 147) dX9_lay_169 fwX9_82 (by decide) rfl (by decide) rfl rfl ?_
      refine a_bipush dX9_lay_172 ⟨by decide, by decide, by decide⟩ ?_
      refine a_iload_n (j := 5) dX9_lay_174 rfl rfl ?_
      refine a_imul (z := (24 * k)) dX9_lay_175 (w_ok (by omega) (by omega)) ?_
      refine a_iload (j := 0) dX9_lay_176 rfl ?_
      refine a_iadd (z := ((24 * k) + ((i : Nat) : Int))) dX9_lay_178 (w_ok (by omega) (by omega)) ?_
      refine b_iaload (a := 147) (z := f₀ (Int.toNat ((24 * k) + ((i : Nat) : Int)))) (Int.toNat ((24 * k) + ((i : Nat) : Int))) dX9_lay_179 (by decide) rfl (by omega) (by omega) (sp_nil rfl _) ((upR_ne (by decide)).trans (congrFun ef _)) (fun r179_2 => ?_)
      refine b_iastore (a := 151) (Int.toNat ((24 * s) + ((i : Nat) : Int))) dX9_lay_180 (by decide) rfl (by omega) (by omega) (sp_nil rfl _) ?_
      refine a_iinc (j := 0) (z' := ((i + 1 : Nat) : Int)) (lv' := [(5, vI ((i + 1 : Nat) : Int)), (4, vI z), (0, vA 123), (1, vI s), (2, vI 2), (3, vI k)]) dX9_lay_181 rfl (w_okN (by omega) (by omega) (by omega)) (by decide) rfl ?_
      refine a_goto (tgt := 145) dX9_lay_184 (by decide) ?_
      rw [up2_R, cpyG_s (by omega) (by omega)]
      refine a_lv (lv' := [(5, vI (((i + 1) : Nat) : Int)), (4, vI z), (0, vA 123), (1, vI s), (2, vI 2), (3, vI k)]) (by intro q hq; simp only [List.mem_cons, List.not_mem_nil, or_false] at hq ⊢; rcases hq with rfl | rfl | rfl | rfl | rfl | rfl <;> simp) (ih (i + 1) (by omega) (by omega))
set_option maxHeartbeats 8000000 in
theorem c_X9_lay {γ : GT} {d : Nat} {s q k : Int} {h : Nat → Nat → Int} {τ : List AC} {Post : Option AV → List AC → Prop} (hd : 2 ≤ d) {v1 : Int} (e1 : h 124 5 = v1) {v2 : Int} (e2 : h 124 (Int.toNat ((15 + (11 * k)) + 5)) = v2) {v3 : Int} (e3 : h 148 (Int.toNat s) = v3) {v4 : Int} (e4 : h 145 (Int.toNat k) = v4) {v5 : Int} (e5 : h 146 (Int.toNat k) = v5) {f6 : Nat → Int} (r6 : h 147 = f6) {f7 : Nat → Int} (r7 : h 151 = f7) {v8 : Int} (e8 : h 124 (Int.toNat ((15 + (11 * k)) + 0)) = v8) (hN : 0 ≤ v1 ∧ v1 ≤ 12) (hP : Im k v1 (0 ≤ v2 ∧ v2 ≤ 999)) (k1 : (0 ≤ s ∧ s ≤ 4) → (0 ≤ q ∧ q ≤ 3) → (¬ q = 1) → (¬ q = 2) → (¬ q = 2) → (¬ q = 1) → (¬ q = 2) → (¬ q = 1) → (¬ q = 2) → Post (some (vI v3)) (mk (up2 (up2 (up2 h 148 (Int.toNat s) q) 149 (Int.toNat s) k) 150 (Int.toNat s) 0) τ)) (k2 : (0 ≤ s ∧ s ≤ 4) → (0 ≤ q ∧ q ≤ 3) → (¬ q = 1) → (q = 2) → (0 ≤ k ∧ k ≤ 3) → (q = 2) → (0 ≤ v4) → (¬ q = 1) → (q = 2) → (¬ q = 1) → Post (some (vI v3)) (mk (upR (up2 (up2 (up2 h 148 (Int.toNat s) q) 149 (Int.toNat s) v5) 150 (Int.toNat s) 0) 151 (cpy f6 f7 (Int.toNat (24 * k)) (Int.toNat (24 * s)) 24)) τ)) (k3 : (0 ≤ s ∧ s ≤ 4) → (0 ≤ q ∧ q ≤ 3) → (¬ q = 1) → (q = 2) → (0 ≤ k ∧ k ≤ 3) → (q = 2) → (¬ 0 ≤ v4) → Post (some (vI (-1000000011))) (mk h τ)) (k4 : (0 ≤ s ∧ s ≤ 4) → (0 ≤ q ∧ q ≤ 3) → (¬ q = 1) → (q = 2) → (¬ (0 ≤ k ∧ k ≤ 3)) → Post (some (vI (-1000000001))) (mk h τ)) (k5 : (0 ≤ s ∧ s ≤ 4) → (0 ≤ q ∧ q ≤ 3) → (q = 1) → (0 ≤ k ∧ k < v1) → (¬ q = 2) → (¬ q = 2) → (q = 1) → (q = 1) → (¬ q = 2) → Post (some (vI v3)) (mk (up2 (up2 (up2 h 148 (Int.toNat s) q) 149 (Int.toNat s) v8) 150 (Int.toNat s) (farF v8 v2)) τ)) (k6 : (0 ≤ s ∧ s ≤ 4) → (0 ≤ q ∧ q ≤ 3) → (q = 1) → (¬ (0 ≤ k ∧ k < v1)) → Post (some (vI (-1000000001))) (mk h τ)) (k7 : (0 ≤ s ∧ s ≤ 4) → (¬ (0 ≤ q ∧ q ≤ 3)) → Post (some (vI (-1000000001))) (mk h τ)) (k8 : (¬ (0 ≤ s ∧ s ≤ 4)) → Post (some (vI (-1000000001))) (mk h τ)) : Cj γ mX9_lay d 0 0 [vA 123, vI s, vI q, vI k] (mk h τ) Post := by
  refine c_of (by decide) (Nat.le_of_ble_eq_true rfl) ?_
  show Aj γ mX9_lay d 0 0 Post 0 [(0, vA 123), (1, vI s), (2, vI q), (3, vI k)] [] (mk h τ)
  refine a_iload_n (j := 1) dX9_lay_0 rfl rfl ?_
  refine a_callS (d' := d - 1) (mc' := 0) (ms' := 0) (mc1 := 0) (ms1 := 0) (st := []) [vI s] dX9_lay_1 mwX9_isSlot lkX9_320 rfl (Nat.le_of_ble_eq_true rfl) (by omega) rfl rfl (c_X9_isSlot  (by omega)    (fun t1_1 => ?_) (fun t1_1 => ?_))
  · have t1_1 : 0 ≤ s ∧ s ≤ 4 := t1_1
    show Aj γ mX9_lay d 0 0 Post 4 [(0, vA 123), (1, vI s), (2, vI q), (3, vI k)] [vI 1] (mk h τ)
    refine a_if_eq (tgt := 41) dX9_lay_4 (by decide) (fun c => absurd c (by decide)) (fun _ => ?_)
    refine a_iload_n (j := 2) dX9_lay_7 rfl rfl ?_
    refine a_iconst dX9_lay_8 ⟨by decide, by decide⟩ ?_
    refine a_iconst dX9_lay_9 ⟨by decide, by decide⟩ ?_
    refine a_callS (d' := d - 1) (mc' := 0) (ms' := 0) (mc1 := 0) (ms1 := 0) (st := []) [vI q, vI 0, vI 3] dX9_lay_10 mwX9_in lkX9_103 rfl (Nat.le_of_ble_eq_true rfl) (by omega) rfl rfl (c_X9_in  (by omega)    (fun t10_2 => ?_) (fun t10_2 => ?_))
    · have t10_2 : 0 ≤ q ∧ q ≤ 3 := t10_2
      show Aj γ mX9_lay d 0 0 Post 13 [(0, vA 123), (1, vI s), (2, vI q), (3, vI k)] [vI 1] (mk h τ)
      refine a_if_eq (tgt := 41) dX9_lay_13 (by decide) (fun c => absurd c (by decide)) (fun _ => ?_)
      refine a_iload_n (j := 2) dX9_lay_16 rfl rfl ?_
      refine a_iconst dX9_lay_17 ⟨by decide, by decide⟩ ?_
      refine a_icmp_ne (tgt := 29) dX9_lay_18 (by decide) (fun c18_3 => ?_) (fun c18_3 => ?_)
      · refine a_iload_n (j := 2) dX9_lay_29 rfl rfl ?_
        refine a_iconst dX9_lay_30 ⟨by decide, by decide⟩ ?_
        refine a_icmp_ne (tgt := 44) dX9_lay_31 (by decide) (fun c31_4 => ?_) (fun c31_4 => ?_)
        · refine a_iload_n (j := 2) dX9_lay_44 rfl rfl ?_
          refine a_iconst dX9_lay_45 ⟨by decide, by decide⟩ ?_
          refine a_icmp_ne (tgt := 62) dX9_lay_46 (by decide) (fun c46_5 => ?_) (fun c46_5 => absurd c46_5 (by omega))
          refine a_aload_n (j := 0) dX9_lay_62 rfl rfl (Nat.le_of_ble_eq_true rfl) ?_
          refine b_getp (a := 123) (p := 148) dX9_lay_63 fwX9_85 (by decide) rfl (by decide) rfl rfl ?_
          refine a_iload_n (j := 1) dX9_lay_66 rfl rfl ?_
          refine b_iaload (a := 148) (z := v3) (Int.toNat s) dX9_lay_67 (by decide) rfl (by omega) (by omega) (sp_nil rfl _) e3 (fun r67_6 => ?_)
          refine a_istore (lv' := [(4, vI v3), (0, vA 123), (1, vI s), (2, vI q), (3, vI k)]) dX9_lay_68 (by decide) rfl ?_
          refine a_aload_n (j := 1) dX9_lay_70 rfl rfl (Nat.le_of_ble_eq_true rfl) ?_
          refine b_getp (a := 123) (p := 148) dX9_lay_71 fwX9_85 (by decide) rfl (by decide) rfl rfl ?_
          refine a_iload_n (j := 2) dX9_lay_74 rfl rfl ?_
          refine a_iload_n (j := 3) dX9_lay_75 rfl rfl ?_
          refine b_iastore (a := 148) (Int.toNat s) dX9_lay_76 (by decide) rfl (by omega) (by omega) (sp_nil rfl _) ?_
          refine a_aload_n (j := 1) dX9_lay_77 rfl rfl (Nat.le_of_ble_eq_true rfl) ?_
          refine b_getp (a := 123) (p := 149) dX9_lay_78 fwX9_88 (by decide) rfl (by decide) rfl rfl ?_
          refine a_iload_n (j := 2) dX9_lay_81 rfl rfl ?_
          refine a_iload_n (j := 3) dX9_lay_82 rfl rfl ?_
          refine a_iconst dX9_lay_83 ⟨by decide, by decide⟩ ?_
          refine a_icmp_ne (tgt := 96) dX9_lay_84 (by decide) (fun c84_7 => ?_) (fun c84_7 => absurd c84_7 (by omega))
          refine a_iload_n (j := 3) dX9_lay_96 rfl rfl ?_
          refine a_iconst dX9_lay_97 ⟨by decide, by decide⟩ ?_
          refine a_icmp_ne (tgt := 110) dX9_lay_98 (by decide) (fun c98_8 => ?_) (fun c98_8 => absurd c98_8 (by omega))
          refine a_iload_n (j := 4) dX9_lay_110 rfl rfl ?_
          refine b_iastore (a := 149) (Int.toNat s) dX9_lay_111 (by decide) rfl (by omega) (by omega) (sp_nil rfl _) ?_
          refine a_aload_n (j := 1) dX9_lay_112 rfl rfl (Nat.le_of_ble_eq_true rfl) ?_
          refine b_getp (a := 123) (p := 150) dX9_lay_113 fwX9_91 (by decide) rfl (by decide) rfl rfl ?_
          refine a_iload_n (j := 2) dX9_lay_116 rfl rfl ?_
          refine a_iload_n (j := 3) dX9_lay_117 rfl rfl ?_
          refine a_iconst dX9_lay_118 ⟨by decide, by decide⟩ ?_
          refine a_icmp_ne (tgt := 140) dX9_lay_119 (by decide) (fun c119_9 => ?_) (fun c119_9 => absurd c119_9 (by omega))
          refine a_iconst dX9_lay_140 ⟨by decide, by decide⟩ ?_
          refine b_iastore (a := 150) (Int.toNat s) dX9_lay_141 (by decide) rfl (by omega) (by omega) (sp_nil rfl _) ?_
          refine a_iconst dX9_lay_142 ⟨by decide, by decide⟩ ?_
          refine a_istore (lv' := [(5, vI 0), (4, vI v3), (0, vA 123), (1, vI s), (2, vI q), (3, vI k)]) dX9_lay_143 (by decide) rfl ?_
          refine a_iload (j := 0) dX9_lay_145 rfl ?_
          refine a_bipush dX9_lay_147 ⟨by decide, by decide, by decide⟩ ?_
          refine a_icmp_ge (tgt := 187) dX9_lay_149 (by decide) (fun c => absurd c (by decide)) (fun _ => ?_)
          refine a_iload_n (j := 4) dX9_lay_152 rfl rfl ?_
          refine a_iconst dX9_lay_153 ⟨by decide, by decide⟩ ?_
          refine a_icmp_ne (tgt := 187) dX9_lay_154 (by decide) (fun c154_10 => ?_) (fun c154_10 => absurd c154_10 (by omega))
          refine a_iload (j := 1) dX9_lay_187 rfl ?_
          exact a_iret dX9_lay_189 rfl (k1 t1_1 t10_2 c18_3 c31_4 c46_5 c84_7 c98_8 c119_9 c154_10)
        · refine a_iload_n (j := 3) dX9_lay_34 rfl rfl ?_
          refine a_callS (d' := d - 1) (mc' := 0) (ms' := 0) (mc1 := 0) (ms1 := 0) (st := []) [vI k] dX9_lay_35 mwX9_isSheet lkX9_312 rfl (Nat.le_of_ble_eq_true rfl) (by omega) rfl rfl (c_X9_isSheet  (by omega)    (fun t35_11 => ?_) (fun t35_11 => ?_))
          · have t35_11 : 0 ≤ k ∧ k ≤ 3 := t35_11
            show Aj γ mX9_lay d 0 0 Post 38 [(0, vA 123), (1, vI s), (2, vI q), (3, vI k)] [vI 1] (mk h τ)
            refine a_if_ne (tgt := 44) dX9_lay_38 (by decide) (fun _ => ?_) (fun c => absurd c (by decide))
            refine a_iload_n (j := 2) dX9_lay_44 rfl rfl ?_
            refine a_iconst dX9_lay_45 ⟨by decide, by decide⟩ ?_
            refine a_icmp_ne (tgt := 62) dX9_lay_46 (by decide) (fun c46_12 => absurd c46_12 (by omega)) (fun c46_12 => ?_)
            refine a_aload_n (j := 0) dX9_lay_49 rfl rfl (Nat.le_of_ble_eq_true rfl) ?_
            refine b_getp (a := 123) (p := 145) dX9_lay_50 fwX9_76 (by decide) rfl (by decide) rfl rfl ?_
            refine a_iload_n (j := 3) dX9_lay_53 rfl rfl ?_
            refine b_iaload (a := 145) (z := v4) (Int.toNat k) dX9_lay_54 (by decide) rfl (by omega) (by omega) (sp_nil rfl _) e4 (fun r54_13 => ?_)
            refine a_if_ge (tgt := 62) dX9_lay_55 (by decide) (fun c55_14 => ?_) (fun c55_14 => ?_)
            · refine a_aload_n (j := 0) dX9_lay_62 rfl rfl (Nat.le_of_ble_eq_true rfl) ?_
              refine b_getp (a := 123) (p := 148) dX9_lay_63 fwX9_85 (by decide) rfl (by decide) rfl rfl ?_
              refine a_iload_n (j := 1) dX9_lay_66 rfl rfl ?_
              refine b_iaload (a := 148) (z := v3) (Int.toNat s) dX9_lay_67 (by decide) rfl (by omega) (by omega) (sp_nil rfl _) e3 (fun r67_15 => ?_)
              refine a_istore (lv' := [(4, vI v3), (0, vA 123), (1, vI s), (2, vI q), (3, vI k)]) dX9_lay_68 (by decide) rfl ?_
              refine a_aload_n (j := 1) dX9_lay_70 rfl rfl (Nat.le_of_ble_eq_true rfl) ?_
              refine b_getp (a := 123) (p := 148) dX9_lay_71 fwX9_85 (by decide) rfl (by decide) rfl rfl ?_
              refine a_iload_n (j := 2) dX9_lay_74 rfl rfl ?_
              refine a_iload_n (j := 3) dX9_lay_75 rfl rfl ?_
              refine b_iastore (a := 148) (Int.toNat s) dX9_lay_76 (by decide) rfl (by omega) (by omega) (sp_nil rfl _) ?_
              refine a_aload_n (j := 1) dX9_lay_77 rfl rfl (Nat.le_of_ble_eq_true rfl) ?_
              refine b_getp (a := 123) (p := 149) dX9_lay_78 fwX9_88 (by decide) rfl (by decide) rfl rfl ?_
              refine a_iload_n (j := 2) dX9_lay_81 rfl rfl ?_
              refine a_iload_n (j := 3) dX9_lay_82 rfl rfl ?_
              refine a_iconst dX9_lay_83 ⟨by decide, by decide⟩ ?_
              refine a_icmp_ne (tgt := 96) dX9_lay_84 (by decide) (fun c84_16 => ?_) (fun c84_16 => absurd c84_16 (by omega))
              refine a_iload_n (j := 3) dX9_lay_96 rfl rfl ?_
              refine a_iconst dX9_lay_97 ⟨by decide, by decide⟩ ?_
              refine a_icmp_ne (tgt := 110) dX9_lay_98 (by decide) (fun c98_17 => absurd c98_17 (by omega)) (fun c98_17 => ?_)
              refine a_aload_n (j := 1) dX9_lay_101 rfl rfl (Nat.le_of_ble_eq_true rfl) ?_
              refine b_getp (a := 123) (p := 146) dX9_lay_102 fwX9_79 (by decide) rfl (by decide) rfl rfl ?_
              refine a_iload_n (j := 4) dX9_lay_105 rfl rfl ?_
              refine b_iaload (a := 146) (z := v5) (Int.toNat k) dX9_lay_106 (by decide) rfl (by omega) (by omega) (sp_nil rfl _) ((up2_ne (by omega)).trans e5) (fun r106_18 => ?_)
              refine a_goto (tgt := 111) dX9_lay_107 (by decide) ?_
              refine b_iastore (a := 149) (Int.toNat s) dX9_lay_111 (by decide) rfl (by omega) (by omega) (sp_nil rfl _) ?_
              refine a_aload_n (j := 1) dX9_lay_112 rfl rfl (Nat.le_of_ble_eq_true rfl) ?_
              refine b_getp (a := 123) (p := 150) dX9_lay_113 fwX9_91 (by decide) rfl (by decide) rfl rfl ?_
              refine a_iload_n (j := 2) dX9_lay_116 rfl rfl ?_
              refine a_iload_n (j := 3) dX9_lay_117 rfl rfl ?_
              refine a_iconst dX9_lay_118 ⟨by decide, by decide⟩ ?_
              refine a_icmp_ne (tgt := 140) dX9_lay_119 (by decide) (fun c119_19 => ?_) (fun c119_19 => absurd c119_19 (by omega))
              refine a_iconst dX9_lay_140 ⟨by decide, by decide⟩ ?_
              refine b_iastore (a := 150) (Int.toNat s) dX9_lay_141 (by decide) rfl (by omega) (by omega) (sp_nil rfl _) ?_
              refine a_iconst dX9_lay_142 ⟨by decide, by decide⟩ ?_
              refine a_istore (lv' := [(5, vI 0), (4, vI v3), (0, vA 123), (1, vI s), (2, vI q), (3, vI k)]) dX9_lay_143 (by decide) rfl ?_
              obtain rfl : q = 2 := (by omega)
              have hl := l_lay (γ := γ) (d := d) (τ := τ) (Post := Post) (h := (up2 (up2 (up2 h 148 (Int.toNat s) 2) 149 (Int.toNat s) v5) 150 (Int.toNat s) 0)) (s := s) (k := k) (z := v3) (f₀ := f6) (g₀ := f7) (by omega) (by omega) ((up2_row (by omega)).trans ((up2_row (by omega)).trans ((up2_row (by omega)).trans r6))) (k2 t1_1 t10_2 c18_3 c31_4 t35_11 c46_12 c55_14 c84_16 c98_17 c119_19) 25 0 (by omega) (by omega)
              rw [cpyG_0, upR_id ((up2_row (by omega)).trans ((up2_row (by omega)).trans ((up2_row (by omega)).trans r7)))] at hl
              exact hl
            · refine a_ldcw (z := (-1000000011)) dX9_lay_58 kwX9_316 ⟨by decide, by decide, by decide⟩ ?_
              exact a_iret dX9_lay_61 rfl (k3 t1_1 t10_2 c18_3 c31_4 t35_11 c46_12 c55_14)
          · have t35_11 : ¬ (0 ≤ k ∧ k ≤ 3) := t35_11
            show Aj γ mX9_lay d 0 0 Post 38 [(0, vA 123), (1, vI s), (2, vI q), (3, vI k)] [vI 0] (mk h τ)
            refine a_if_ne (tgt := 44) dX9_lay_38 (by decide) (fun c => absurd c (by decide)) (fun _ => ?_)
            refine a_ldc (z := (-1000000001)) dX9_lay_41 kwX9_146 ⟨by decide, by decide, by decide⟩ ?_
            exact a_iret dX9_lay_43 rfl (k4 t1_1 t10_2 c18_3 c31_4 t35_11)
      · refine a_aload_n (j := 0) dX9_lay_21 rfl rfl (Nat.le_of_ble_eq_true rfl) ?_
        refine a_iload_n (j := 3) dX9_lay_22 rfl rfl ?_
        refine b_callV (d' := d - 1) (mc' := 0) (ms' := 0) (mc1 := 0) (ms1 := 0) (st := []) (b := 123) [vI k] dX9_lay_23 mwX9_isTrain lkX9_152 (by decide) rfl rc_X9 rfl (Nat.le_of_ble_eq_true rfl) (by omega) rfl rfl (c_X9_isTrain (v1 := v1) (by omega)  e1 (show 0 ≤ v1 ∧ v1 ≤ 12 by omega) (fun t23_20 => ?_) (fun t23_20 => ?_))
        · have t23_20 : 0 ≤ k ∧ k < v1 := t23_20
          show Aj γ mX9_lay d 0 0 Post 26 [(0, vA 123), (1, vI s), (2, vI q), (3, vI k)] [vI 1] (mk h τ)
          refine a_if_eq (tgt := 41) dX9_lay_26 (by decide) (fun c => absurd c (by decide)) (fun _ => ?_)
          refine a_iload_n (j := 2) dX9_lay_29 rfl rfl ?_
          refine a_iconst dX9_lay_30 ⟨by decide, by decide⟩ ?_
          refine a_icmp_ne (tgt := 44) dX9_lay_31 (by decide) (fun c31_21 => ?_) (fun c31_21 => absurd c31_21 (by omega))
          refine a_iload_n (j := 2) dX9_lay_44 rfl rfl ?_
          refine a_iconst dX9_lay_45 ⟨by decide, by decide⟩ ?_
          refine a_icmp_ne (tgt := 62) dX9_lay_46 (by decide) (fun c46_22 => ?_) (fun c46_22 => absurd c46_22 (by omega))
          refine a_aload_n (j := 0) dX9_lay_62 rfl rfl (Nat.le_of_ble_eq_true rfl) ?_
          refine b_getp (a := 123) (p := 148) dX9_lay_63 fwX9_85 (by decide) rfl (by decide) rfl rfl ?_
          refine a_iload_n (j := 1) dX9_lay_66 rfl rfl ?_
          refine b_iaload (a := 148) (z := v3) (Int.toNat s) dX9_lay_67 (by decide) rfl (by omega) (by omega) (sp_nil rfl _) e3 (fun r67_23 => ?_)
          refine a_istore (lv' := [(4, vI v3), (0, vA 123), (1, vI s), (2, vI q), (3, vI k)]) dX9_lay_68 (by decide) rfl ?_
          refine a_aload_n (j := 1) dX9_lay_70 rfl rfl (Nat.le_of_ble_eq_true rfl) ?_
          refine b_getp (a := 123) (p := 148) dX9_lay_71 fwX9_85 (by decide) rfl (by decide) rfl rfl ?_
          refine a_iload_n (j := 2) dX9_lay_74 rfl rfl ?_
          refine a_iload_n (j := 3) dX9_lay_75 rfl rfl ?_
          refine b_iastore (a := 148) (Int.toNat s) dX9_lay_76 (by decide) rfl (by omega) (by omega) (sp_nil rfl _) ?_
          refine a_aload_n (j := 1) dX9_lay_77 rfl rfl (Nat.le_of_ble_eq_true rfl) ?_
          refine b_getp (a := 123) (p := 149) dX9_lay_78 fwX9_88 (by decide) rfl (by decide) rfl rfl ?_
          refine a_iload_n (j := 2) dX9_lay_81 rfl rfl ?_
          refine a_iload_n (j := 3) dX9_lay_82 rfl rfl ?_
          refine a_iconst dX9_lay_83 ⟨by decide, by decide⟩ ?_
          refine a_icmp_ne (tgt := 96) dX9_lay_84 (by decide) (fun c84_24 => absurd c84_24 (by omega)) (fun c84_24 => ?_)
          refine a_aload_n (j := 1) dX9_lay_87 rfl rfl (Nat.le_of_ble_eq_true rfl) ?_
          refine a_iload_n (j := 4) dX9_lay_88 rfl rfl ?_
          refine a_iconst dX9_lay_89 ⟨by decide, by decide⟩ ?_
          refine b_callV (d' := d - 1) (mc' := 0) (ms' := 0) (mc1 := 0) (ms1 := 0) (st := [vI s, vA 149]) (b := 123) [vI k, vI 0] dX9_lay_90 mwX9_of lkX9_107 (by decide) rfl rc_X9 rfl (Nat.le_of_ble_eq_true rfl) (by omega) rfl rfl (c_X9_of (v1 := v8) (by omega)  ((up2_ne (by omega)).trans e8) (show 0 ≤ k ∧ k ≤ 11 ∧ 0 ≤ 0 ∧ 0 ≤ 10 by omega) ?_)
          show Aj γ mX9_lay d 0 0 Post 93 [(4, vI v3), (0, vA 123), (1, vI s), (2, vI q), (3, vI k)] [vI v8, vI s, vA 149] (mk (up2 h 148 (Int.toNat s) q) τ)
          refine a_goto (tgt := 111) dX9_lay_93 (by decide) ?_
          refine b_iastore (a := 149) (Int.toNat s) dX9_lay_111 (by decide) rfl (by omega) (by omega) (sp_nil rfl _) ?_
          refine a_aload_n (j := 1) dX9_lay_112 rfl rfl (Nat.le_of_ble_eq_true rfl) ?_
          refine b_getp (a := 123) (p := 150) dX9_lay_113 fwX9_91 (by decide) rfl (by decide) rfl rfl ?_
          refine a_iload_n (j := 2) dX9_lay_116 rfl rfl ?_
          refine a_iload_n (j := 3) dX9_lay_117 rfl rfl ?_
          refine a_iconst dX9_lay_118 ⟨by decide, by decide⟩ ?_
          refine a_icmp_ne (tgt := 140) dX9_lay_119 (by decide) (fun c119_25 => absurd c119_25 (by omega)) (fun c119_25 => ?_)
          have hP := hP (by omega) (by omega)
          refine a_aload_n (j := 1) dX9_lay_122 rfl rfl (Nat.le_of_ble_eq_true rfl) ?_
          refine a_iload_n (j := 4) dX9_lay_123 rfl rfl ?_
          refine a_iconst dX9_lay_124 ⟨by decide, by decide⟩ ?_
          refine b_callV (d' := d - 1) (mc' := 0) (ms' := 0) (mc1 := 0) (ms1 := 0) (st := [vI s, vA 150]) (b := 123) [vI k, vI 0] dX9_lay_125 mwX9_of lkX9_107 (by decide) rfl rc_X9 rfl (Nat.le_of_ble_eq_true rfl) (by omega) rfl rfl (c_X9_of (v1 := v8) (by omega)  ((up2_ne (by omega)).trans ((up2_ne (by omega)).trans e8)) (show 0 ≤ k ∧ k ≤ 11 ∧ 0 ≤ 0 ∧ 0 ≤ 10 by omega) ?_)
          show Aj γ mX9_lay d 0 0 Post 128 [(4, vI v3), (0, vA 123), (1, vI s), (2, vI q), (3, vI k)] [vI v8, vI s, vA 150] (mk (up2 (up2 h 148 (Int.toNat s) q) 149 (Int.toNat s) v8) τ)
          refine a_aload_n (j := 1) dX9_lay_128 rfl rfl (Nat.le_of_ble_eq_true rfl) ?_
          refine a_iload_n (j := 4) dX9_lay_129 rfl rfl ?_
          refine a_iconst dX9_lay_130 ⟨by decide, by decide⟩ ?_
          refine b_callV (d' := d - 1) (mc' := 0) (ms' := 0) (mc1 := 0) (ms1 := 0) (st := [vI v8, vI s, vA 150]) (b := 123) [vI k, vI 5] dX9_lay_131 mwX9_of lkX9_107 (by decide) rfl rc_X9 rfl (Nat.le_of_ble_eq_true rfl) (by omega) rfl rfl (c_X9_of (v1 := v2) (by omega)  ((up2_ne (by omega)).trans ((up2_ne (by omega)).trans e2)) (show 0 ≤ k ∧ k ≤ 11 ∧ 0 ≤ 5 ∧ 5 ≤ 10 by omega) ?_)
          show Aj γ mX9_lay d 0 0 Post 134 [(4, vI v3), (0, vA 123), (1, vI s), (2, vI q), (3, vI k)] [vI v2, vI v8, vI s, vA 150] (mk (up2 (up2 h 148 (Int.toNat s) q) 149 (Int.toNat s) v8) τ)
          refine a_callS (d' := d - 1) (mc' := 0) (ms' := 0) (mc1 := 0) (ms1 := 0) (st := [vI s, vA 150]) [vI v8, vI v2] dX9_lay_134 mwX9_fareBy lkX9_164 rfl (Nat.le_of_ble_eq_true rfl) (by omega) rfl rfl (c_X9_fareBy  (by omega)   (show 0 ≤ v2 ∧ v2 ≤ 999 by omega) ?_)
          show Aj γ mX9_lay d 0 0 Post 137 [(4, vI v3), (0, vA 123), (1, vI s), (2, vI q), (3, vI k)] [vI (farF v8 v2), vI s, vA 150] (mk (up2 (up2 h 148 (Int.toNat s) q) 149 (Int.toNat s) v8) τ)
          refine a_goto (tgt := 141) dX9_lay_137 (by decide) ?_
          refine b_iastore (a := 150) (Int.toNat s) dX9_lay_141 (by decide) rfl (by omega) (by omega) (sp_nil rfl _) ?_
          refine a_iconst dX9_lay_142 ⟨by decide, by decide⟩ ?_
          refine a_istore (lv' := [(5, vI 0), (4, vI v3), (0, vA 123), (1, vI s), (2, vI q), (3, vI k)]) dX9_lay_143 (by decide) rfl ?_
          refine a_iload (j := 0) dX9_lay_145 rfl ?_
          refine a_bipush dX9_lay_147 ⟨by decide, by decide, by decide⟩ ?_
          refine a_icmp_ge (tgt := 187) dX9_lay_149 (by decide) (fun c => absurd c (by decide)) (fun _ => ?_)
          refine a_iload_n (j := 4) dX9_lay_152 rfl rfl ?_
          refine a_iconst dX9_lay_153 ⟨by decide, by decide⟩ ?_
          refine a_icmp_ne (tgt := 187) dX9_lay_154 (by decide) (fun c154_26 => ?_) (fun c154_26 => absurd c154_26 (by omega))
          refine a_iload (j := 1) dX9_lay_187 rfl ?_
          exact a_iret dX9_lay_189 rfl (k5 t1_1 t10_2 c18_3 t23_20 c31_21 c46_22 c84_24 c119_25 c154_26)
        · have t23_20 : ¬ (0 ≤ k ∧ k < v1) := t23_20
          show Aj γ mX9_lay d 0 0 Post 26 [(0, vA 123), (1, vI s), (2, vI q), (3, vI k)] [vI 0] (mk h τ)
          refine a_if_eq (tgt := 41) dX9_lay_26 (by decide) (fun _ => ?_) (fun c => absurd c (by decide))
          refine a_ldc (z := (-1000000001)) dX9_lay_41 kwX9_146 ⟨by decide, by decide, by decide⟩ ?_
          exact a_iret dX9_lay_43 rfl (k6 t1_1 t10_2 c18_3 t23_20)
    · have t10_2 : ¬ (0 ≤ q ∧ q ≤ 3) := t10_2
      show Aj γ mX9_lay d 0 0 Post 13 [(0, vA 123), (1, vI s), (2, vI q), (3, vI k)] [vI 0] (mk h τ)
      refine a_if_eq (tgt := 41) dX9_lay_13 (by decide) (fun _ => ?_) (fun c => absurd c (by decide))
      refine a_ldc (z := (-1000000001)) dX9_lay_41 kwX9_146 ⟨by decide, by decide, by decide⟩ ?_
      exact a_iret dX9_lay_43 rfl (k7 t1_1 t10_2)
  · have t1_1 : ¬ (0 ≤ s ∧ s ≤ 4) := t1_1
    show Aj γ mX9_lay d 0 0 Post 4 [(0, vA 123), (1, vI s), (2, vI q), (3, vI k)] [vI 0] (mk h τ)
    refine a_if_eq (tgt := 41) dX9_lay_4 (by decide) (fun _ => ?_) (fun c => absurd c (by decide))
    refine a_ldc (z := (-1000000001)) dX9_lay_41 kwX9_146 ⟨by decide, by decide, by decide⟩ ?_
    exact a_iret dX9_lay_43 rfl (k8 t1_1)
