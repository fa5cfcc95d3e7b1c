set_option maxHeartbeats 8000000 in
theorem c_X9_in {γ : GT} {d : Nat} {v a b : Int} {h : Nat → Nat → Int} {τ : List AC} {Post : Option AV → List AC → Prop} (hd : 0 ≤ d) (kT : a ≤ v ∧ v ≤ b → Post (some (vI 1)) (mk h τ)) (kF : ¬ (a ≤ v ∧ v ≤ b) → Post (some (vI 0)) (mk h τ)) : Cj γ mX9_in d 0 0 [vI v, vI a, vI b] (mk h τ) Post := by
  refine c_of (by decide) (Nat.le_of_ble_eq_true rfl) ?_
  show Aj γ mX9_in d 0 0 Post 0 [(0, vI v), (1, vI a), (2, vI b)] [] (mk h τ)
  refine a_iload_n (j := 0) dX9_in_0 rfl rfl ?_
  refine a_iload_n (j := 1) dX9_in_1 rfl rfl ?_
  refine a_icmp_lt (tgt := 14) dX9_in_2 (by decide) (fun c2_1 => ?_) (fun c2_1 => ?_)
  · refine a_iconst dX9_in_14 ⟨by decide, by decide⟩ ?_
    exact a_zret dX9_in_15 rfl (by first | exact Or.inl rfl | exact Or.inr rfl | omega) (kF (by omega))
  · refine a_iload_n (j := 0) dX9_in_5 rfl rfl ?_
    refine a_iload_n (j := 2) dX9_in_6 rfl rfl ?_
    refine a_icmp_gt (tgt := 14) dX9_in_7 (by decide) (fun c7_2 => ?_) (fun c7_2 => ?_)
    · refine a_iconst dX9_in_14 ⟨by decide, by decide⟩ ?_
      exact a_zret dX9_in_15 rfl (by first | exact Or.inl rfl | exact Or.inr rfl | omega) (kF (by omega))
    · refine a_iconst dX9_in_10 ⟨by decide, by decide⟩ ?_
      refine a_goto (tgt := 15) dX9_in_11 (by decide) ?_
      exact a_zret dX9_in_15 rfl (by first | exact Or.inl rfl | exact Or.inr rfl | omega) (kT (by omega))
set_option maxHeartbeats 8000000 in
theorem c_X9_within {γ : GT} {d : Nat} {v a b : Int} {h : Nat → Nat → Int} {τ : List AC} {Post : Option AV → List AC → Prop} (hd : 0 ≤ d) (kQ : Post (some (vI (hw v a b))) (mk h τ)) : Cj γ mX9_within d 0 0 [vI v, vI a, vI b] (mk h τ) Post := by
  refine c_of (by decide) (Nat.le_of_ble_eq_true rfl) ?_
  show Aj γ mX9_within d 0 0 Post 0 [(0, vI v), (1, vI a), (2, vI b)] [] (mk h τ)
  refine a_iload_n (j := 0) dX9_within_0 rfl rfl ?_
  refine a_iload_n (j := 1) dX9_within_1 rfl rfl ?_
  refine a_icmp_ge (tgt := 9) dX9_within_2 (by decide) (fun c2_1 => ?_) (fun c2_1 => ?_)
  · refine a_iload_n (j := 0) dX9_within_9 rfl rfl ?_
    refine a_iload_n (j := 2) dX9_within_10 rfl rfl ?_
    refine a_icmp_le (tgt := 18) dX9_within_11 (by decide) (fun c11_2 => ?_) (fun c11_2 => ?_)
    · refine a_iload_n (j := 0) dX9_within_18 rfl rfl ?_
      exact a_iret dX9_within_19 rfl (post_v kQ (by unfold hw; split <;> (try split) <;> omega))
    · refine a_iload_n (j := 2) dX9_within_14 rfl rfl ?_
      refine a_goto (tgt := 19) dX9_within_15 (by decide) ?_
      exact a_iret dX9_within_19 rfl (post_v kQ (by unfold hw; split <;> (try split) <;> omega))
  · refine a_iload_n (j := 1) dX9_within_5 rfl rfl ?_
    refine a_goto (tgt := 19) dX9_within_6 (by decide) ?_
    exact a_iret dX9_within_19 rfl (post_v kQ (by unfold hw; split <;> (try split) <;> omega))
set_option maxHeartbeats 8000000 in
theorem c_X9_isSheet {γ : GT} {d : Nat} {v : Int} {h : Nat → Nat → Int} {τ : List AC} {Post : Option AV → List AC → Prop} (hd : 1 ≤ d) (kT : 0 ≤ v ∧ v ≤ 3 → Post (some (vI 1)) (mk h τ)) (kF : ¬ (0 ≤ v ∧ v ≤ 3) → Post (some (vI 0)) (mk h τ)) : Cj γ mX9_isSheet d 0 0 [vI v] (mk h τ) Post := by
  refine c_of (by decide) (Nat.le_of_ble_eq_true rfl) ?_
  show Aj γ mX9_isSheet d 0 0 Post 0 [(0, vI v)] [] (mk h τ)
  refine a_iload_n (j := 0) dX9_isSheet_0 rfl rfl ?_
  refine a_iconst dX9_isSheet_1 ⟨by decide, by decide⟩ ?_
  refine a_iconst dX9_isSheet_2 ⟨by decide, by decide⟩ ?_
  refine a_callS (d' := d - 1) (mc' := 0) (ms' := 0) (mc1 := 0) (ms1 := 0) (st := []) [vI v, vI 0, vI 3] dX9_isSheet_3 mwX9_in lkX9_103 rfl (Nat.le_of_ble_eq_true rfl) (by omega) rfl rfl (c_X9_in  (by omega)    (fun t3_1 => ?_) (fun t3_1 => ?_))
  · have t3_1 : 0 ≤ v ∧ v ≤ 3 := t3_1
    show Aj γ mX9_isSheet d 0 0 Post 6 [(0, vI v)] [vI 1] (mk h τ)
    exact a_zret dX9_isSheet_6 rfl (by first | exact Or.inl rfl | exact Or.inr rfl | omega) (kT (by omega))
  · have t3_1 : ¬ (0 ≤ v ∧ v ≤ 3) := t3_1
    show Aj γ mX9_isSheet d 0 0 Post 6 [(0, vI v)] [vI 0] (mk h τ)
    exact a_zret dX9_isSheet_6 rfl (by first | exact Or.inl rfl | exact Or.inr rfl | omega) (kF (by omega))
set_option maxHeartbeats 8000000 in
theorem c_X9_isSlot {γ : GT} {d : Nat} {v : Int} {h : Nat → Nat → Int} {τ : List AC} {Post : Option AV → List AC → Prop} (hd : 1 ≤ d) (kT : 0 ≤ v ∧ v ≤ 4 → Post (some (vI 1)) (mk h τ)) (kF : ¬ (0 ≤ v ∧ v ≤ 4) → Post (some (vI 0)) (mk h τ)) : Cj γ mX9_isSlot d 0 0 [vI v] (mk h τ) Post := by
  refine c_of (by decide) (Nat.le_of_ble_eq_true rfl) ?_
  show Aj γ mX9_isSlot d 0 0 Post 0 [(0, vI v)] [] (mk h τ)
  refine a_iload_n (j := 0) dX9_isSlot_0 rfl rfl ?_
  refine a_iconst dX9_isSlot_1 ⟨by decide, by decide⟩ ?_
  refine a_iconst dX9_isSlot_2 ⟨by decide, by decide⟩ ?_
  refine a_callS (d' := d - 1) (mc' := 0) (ms' := 0) (mc1 := 0) (ms1 := 0) (st := []) [vI v, vI 0, vI 4] dX9_isSlot_3 mwX9_in lkX9_103 rfl (Nat.le_of_ble_eq_true rfl) (by omega) rfl rfl (c_X9_in  (by omega)    (fun t3_1 => ?_) (fun t3_1 => ?_))
  · have t3_1 : 0 ≤ v ∧ v ≤ 4 := t3_1
    show Aj γ mX9_isSlot d 0 0 Post 6 [(0, vI v)] [vI 1] (mk h τ)
    exact a_zret dX9_isSlot_6 rfl (by first | exact Or.inl rfl | exact Or.inr rfl | omega) (kT (by omega))
  · have t3_1 : ¬ (0 ≤ v ∧ v ≤ 4) := t3_1
    show Aj γ mX9_isSlot d 0 0 Post 6 [(0, vI v)] [vI 0] (mk h τ)
    exact a_zret dX9_isSlot_6 rfl (by first | exact Or.inl rfl | exact Or.inr rfl | omega) (kF (by omega))
set_option maxHeartbeats 8000000 in
theorem c_X9_isStop {γ : GT} {d : Nat} {s : Int} {h : Nat → Nat → Int} {τ : List AC} {Post : Option AV → List AC → Prop} (hd : 1 ≤ d) {v1 : Int} (e1 : h 124 4 = v1) (hS : 0 ≤ v1 ∧ v1 ≤ 6) (kT : 0 ≤ s ∧ s < v1 → Post (some (vI 1)) (mk h τ)) (kF : ¬ (0 ≤ s ∧ s < v1) → Post (some (vI 0)) (mk h τ)) : Cj γ mX9_isStop d 0 0 [vA 123, vI s] (mk h τ) Post := by
  refine c_of (by decide) (Nat.le_of_ble_eq_true rfl) ?_
  show Aj γ mX9_isStop d 0 0 Post 0 [(0, vA 123), (1, vI s)] [] (mk h τ)
  refine a_iload_n (j := 1) dX9_isStop_0 rfl rfl ?_
  refine a_iconst dX9_isStop_1 ⟨by decide, by decide⟩ ?_
  refine a_aload_n (j := 0) dX9_isStop_2 rfl rfl (Nat.le_of_ble_eq_true rfl) ?_
  refine b_getp (a := 123) (p := 124) dX9_isStop_3 fwX9_9 (by decide) rfl (by decide) rfl rfl ?_
  refine a_iconst dX9_isStop_6 ⟨by decide, by decide⟩ ?_
  refine b_iaload (a := 124) (z := v1) 4 dX9_isStop_7 (by decide) rfl rfl (by decide) rfl e1 (fun r7_1 => ?_)
  refine a_iconst dX9_isStop_8 ⟨by decide, by decide⟩ ?_
  refine a_isub (z := (v1 - 1)) dX9_isStop_9 (w_ok (by omega) (by omega)) ?_
  refine a_callS (d' := d - 1) (mc' := 0) (ms' := 0) (mc1 := 0) (ms1 := 0) (st := []) [vI s, vI 0, vI (v1 - 1)] dX9_isStop_10 mwX9_in lkX9_103 rfl (Nat.le_of_ble_eq_true rfl) (by omega) rfl rfl (c_X9_in  (by omega)    (fun t10_2 => ?_) (fun t10_2 => ?_))
  · have t10_2 : 0 ≤ s ∧ s ≤ (v1 - 1) := t10_2
    show Aj γ mX9_isStop d 0 0 Post 13 [(0, vA 123), (1, vI s)] [vI 1] (mk h τ)
    exact a_zret dX9_isStop_13 rfl (by first | exact Or.inl rfl | exact Or.inr rfl | omega) (kT (by omega))
  · have t10_2 : ¬ (0 ≤ s ∧ s ≤ (v1 - 1)) := t10_2
    show Aj γ mX9_isStop d 0 0 Post 13 [(0, vA 123), (1, vI s)] [vI 0] (mk h τ)
    exact a_zret dX9_isStop_13 rfl (by first | exact Or.inl rfl | exact Or.inr rfl | omega) (kF (by omega))
set_option maxHeartbeats 8000000 in
theorem c_X9_isTrain {γ : GT} {d : Nat} {s : Int} {h : Nat → Nat → Int} {τ : List AC} {Post : Option AV → List AC → Prop} (hd : 1 ≤ d) {v1 : Int} (e1 : h 124 5 = v1) (hN : 0 ≤ v1 ∧ v1 ≤ 12) (kT : 0 ≤ s ∧ s < v1 → Post (some (vI 1)) (mk h τ)) (kF : ¬ (0 ≤ s ∧ s < v1) → Post (some (vI 0)) (mk h τ)) : Cj γ mX9_isTrain d 0 0 [vA 123, vI s] (mk h τ) Post := by
  refine c_of (by decide) (Nat.le_of_ble_eq_true rfl) ?_
  show Aj γ mX9_isTrain d 0 0 Post 0 [(0, vA 123), (1, vI s)] [] (mk h τ)
  refine a_iload_n (j := 1) dX9_isTrain_0 rfl rfl ?_
  refine a_iconst dX9_isTrain_1 ⟨by decide, by decide⟩ ?_
  refine a_aload_n (j := 0) dX9_isTrain_2 rfl rfl (Nat.le_of_ble_eq_true rfl) ?_
  refine b_getp (a := 123) (p := 124) dX9_isTrain_3 fwX9_9 (by decide) rfl (by decide) rfl rfl ?_
  refine a_iconst dX9_isTrain_6 ⟨by decide, by decide⟩ ?_
  refine b_iaload (a := 124) (z := v1) 5 dX9_isTrain_7 (by decide) rfl rfl (by decide) rfl e1 (fun r7_1 => ?_)
  refine a_iconst dX9_isTrain_8 ⟨by decide, by decide⟩ ?_
  refine a_isub (z := (v1 - 1)) dX9_isTrain_9 (w_ok (by omega) (by omega)) ?_
  refine a_callS (d' := d - 1) (mc' := 0) (ms' := 0) (mc1 := 0) (ms1 := 0) (st := []) [vI s, vI 0, vI (v1 - 1)] dX9_isTrain_10 mwX9_in lkX9_103 rfl (Nat.le_of_ble_eq_true rfl) (by omega) rfl rfl (c_X9_in  (by omega)    (fun t10_2 => ?_) (fun t10_2 => ?_))
  · have t10_2 : 0 ≤ s ∧ s ≤ (v1 - 1) := t10_2
    show Aj γ mX9_isTrain d 0 0 Post 13 [(0, vA 123), (1, vI s)] [vI 1] (mk h τ)
    exact a_zret dX9_isTrain_13 rfl (by first | exact Or.inl rfl | exact Or.inr rfl | omega) (kT (by omega))
  · have t10_2 : ¬ (0 ≤ s ∧ s ≤ (v1 - 1)) := t10_2
    show Aj γ mX9_isTrain d 0 0 Post 13 [(0, vA 123), (1, vI s)] [vI 0] (mk h τ)
    exact a_zret dX9_isTrain_13 rfl (by first | exact Or.inl rfl | exact Or.inr rfl | omega) (kF (by omega))
set_option maxHeartbeats 8000000 in
theorem c_X9_of {γ : GT} {d : Nat} {t q : Int} {h : Nat → Nat → Int} {τ : List AC} {Post : Option AV → List AC → Prop} (hd : 0 ≤ d) {v1 : Int} (e1 : h 124 (Int.toNat ((15 + (11 * t)) + q)) = v1) (hr : 0 ≤ t ∧ t ≤ 11 ∧ 0 ≤ q ∧ q ≤ 10) (kQ : Post (some (vI v1)) (mk h τ)) : Cj γ mX9_of d 0 0 [vA 123, vI t, vI q] (mk h τ) Post := by
  refine c_of (by decide) (Nat.le_of_ble_eq_true rfl) ?_
  show Aj γ mX9_of d 0 0 Post 0 [(0, vA 123), (1, vI t), (2, vI q)] [] (mk h τ)
  refine a_aload_n (j := 0) dX9_of_0 rfl rfl (Nat.le_of_ble_eq_true rfl) ?_
  refine b_getp (a := 123) (p := 124) dX9_of_1 fwX9_9 (by decide) rfl (by decide) rfl rfl ?_
  refine a_bipush dX9_of_4 ⟨by decide, by decide, by decide⟩ ?_
  refine a_bipush dX9_of_6 ⟨by decide, by decide, by decide⟩ ?_
  refine a_iload_n (j := 1) dX9_of_8 rfl rfl ?_
  refine a_imul (z := (11 * t)) dX9_of_9 (w_ok (by omega) (by omega)) ?_
  refine a_iadd (z := (15 + (11 * t))) dX9_of_10 (w_ok (by omega) (by omega)) ?_
  refine a_iload_n (j := 2) dX9_of_11 rfl rfl ?_
  refine a_iadd (z := ((15 + (11 * t)) + q)) dX9_of_12 (w_ok (by omega) (by omega)) ?_
  refine b_iaload (a := 124) (z := v1) (Int.toNat ((15 + (11 * t)) + q)) dX9_of_13 (by decide) rfl (by omega) (by omega) (sp_nil rfl _) e1 (fun r13_1 => ?_)
  exact a_iret dX9_of_14 rfl (post_v kQ (by rfl))
set_option maxHeartbeats 8000000 in
theorem c_X9_becomes {γ : GT} {d : Nat} {t q v : Int} {h : Nat → Nat → Int} {τ : List AC} {Post : Option AV → List AC → Prop} (hd : 1 ≤ d) {v1 : Int} (e1 : h 124 (Int.toNat ((15 + (11 * t)) + q)) = v1) (hr : 0 ≤ t ∧ t ≤ 11 ∧ 0 ≤ q ∧ q ≤ 10) (kQ : Post (some (vI v1)) (mk (up2 (up2 h 124 (Int.toNat ((15 + (11 * t)) + q)) v) 123 4 0) τ)) : Cj γ mX9_becomes d 0 0 [vA 123, vI t, vI q, vI v] (mk h τ) Post := by
  refine c_of (by decide) (Nat.le_of_ble_eq_true rfl) ?_
  show Aj γ mX9_becomes d 0 0 Post 0 [(0, vA 123), (1, vI t), (2, vI q), (3, vI v)] [] (mk h τ)
  refine a_aload_n (j := 0) dX9_becomes_0 rfl rfl (Nat.le_of_ble_eq_true rfl) ?_
  refine a_iload_n (j := 1) dX9_becomes_1 rfl rfl ?_
  refine a_iload_n (j := 2) dX9_becomes_2 rfl rfl ?_
  refine b_callV (d' := d - 1) (mc' := 0) (ms' := 0) (mc1 := 0) (ms1 := 0) (st := []) (b := 123) [vI t, vI q] dX9_becomes_3 mwX9_of lkX9_107 (by decide) rfl rc_X9 rfl (Nat.le_of_ble_eq_true rfl) (by omega) rfl rfl (c_X9_of (v1 := v1) (by omega)  e1 (show 0 ≤ t ∧ t ≤ 11 ∧ 0 ≤ q ∧ q ≤ 10 by omega) ?_)
  show Aj γ mX9_becomes d 0 0 Post 6 [(0, vA 123), (1, vI t), (2, vI q), (3, vI v)] [vI v1] (mk h τ)
  refine a_istore (lv' := [(4, vI v1), (0, vA 123), (1, vI t), (2, vI q), (3, vI v)]) dX9_becomes_6 (by decide) rfl ?_
  refine a_aload_n (j := 1) dX9_becomes_8 rfl rfl (Nat.le_of_ble_eq_true rfl) ?_
  refine b_getp (a := 123) (p := 124) dX9_becomes_9 fwX9_9 (by decide) rfl (by decide) rfl rfl ?_
  refine a_bipush dX9_becomes_12 ⟨by decide, by decide, by decide⟩ ?_
  refine a_bipush dX9_becomes_14 ⟨by decide, by decide, by decide⟩ ?_
  refine a_iload_n (j := 2) dX9_becomes_16 rfl rfl ?_
  refine a_imul (z := (11 * t)) dX9_becomes_17 (w_ok (by omega) (by omega)) ?_
  refine a_iadd (z := (15 + (11 * t))) dX9_becomes_18 (w_ok (by omega) (by omega)) ?_
  refine a_iload_n (j := 3) dX9_becomes_19 rfl rfl ?_
  refine a_iadd (z := ((15 + (11 * t)) + q)) dX9_becomes_20 (w_ok (by omega) (by omega)) ?_
  refine a_iload_n (j := 4) dX9_becomes_21 rfl rfl ?_
  refine b_iastore (a := 124) (Int.toNat ((15 + (11 * t)) + q)) dX9_becomes_22 (by decide) rfl (by omega) (by omega) (sp_nil rfl _) ?_
  refine a_aload_n (j := 1) dX9_becomes_23 rfl rfl (Nat.le_of_ble_eq_true rfl) ?_
  refine a_iconst dX9_becomes_24 ⟨by decide, by decide⟩ ?_
  refine b_put (a := 123) (v := vI 0) dX9_becomes_25 pwX9_111 (fun h => nomatch h) (by decide) rfl (by decide) rfl rfl (fit_bool (by first | exact Or.inl rfl | exact Or.inr rfl | omega)) ?_
  show Aj γ mX9_becomes d 0 0 Post 28 [(4, vI v1), (0, vA 123), (1, vI t), (2, vI q), (3, vI v)] [] (mk (up2 (up2 h 124 (Int.toNat ((15 + (11 * t)) + q)) v) 123 4 0) τ)
  refine a_iload (j := 0) dX9_becomes_28 rfl ?_
  exact a_iret dX9_becomes_30 rfl (post_v kQ (by rfl))
set_option maxHeartbeats 8000000 in
theorem c_X9_orNone {γ : GT} {d : Nat} {v : Int} {h : Nat → Nat → Int} {τ : List AC} {Post : Option AV → List AC → Prop} (hd : 0 ≤ d) (kQ : Post (some (vI (if v < 0 then -1000000005 else v))) (mk h τ)) : Cj γ mX9_orNone d 0 0 [vI v] (mk h τ) Post := by
  refine c_of (by decide) (Nat.le_of_ble_eq_true rfl) ?_
  show Aj γ mX9_orNone d 0 0 Post 0 [(0, vI v)] [] (mk h τ)
  refine a_iload_n (j := 0) dX9_orNone_0 rfl rfl ?_
  refine a_if_ge (tgt := 9) dX9_orNone_1 (by decide) (fun c1_1 => ?_) (fun c1_1 => ?_)
  · refine a_iload_n (j := 0) dX9_orNone_9 rfl rfl ?_
    exact a_iret dX9_orNone_10 rfl (post_v kQ (by split <;> omega))
  · refine a_ldc (z := (-1000000005)) dX9_orNone_4 kwX9_115 ⟨by decide, by decide, by decide⟩ ?_
    refine a_goto (tgt := 10) dX9_orNone_6 (by decide) ?_
    exact a_iret dX9_orNone_10 rfl (post_v kQ (by split <;> omega))
set_option maxHeartbeats 8000000 in
theorem c_X9_fareBy {γ : GT} {d : Nat} {k p : Int} {h : Nat → Nat → Int} {τ : List AC} {Post : Option AV → List AC → Prop} (hd : 0 ≤ d) (hr : 0 ≤ p ∧ p ≤ 999) (kQ : Post (some (vI (farF k p))) (mk h τ)) : Cj γ mX9_fareBy d 0 0 [vI k, vI p] (mk h τ) Post := by
  refine c_of (by decide) (Nat.le_of_ble_eq_true rfl) ?_
  show Aj γ mX9_fareBy d 0 0 Post 0 [(0, vI k), (1, vI p)] [] (mk h τ)
  refine a_iload_n (j := 0) dX9_fareBy_0 rfl rfl ?_
  rcases (show k = 1 ∨ k = 2 ∨ k = 3 ∨ k = 4 ∨ (¬ k = 1 ∧ ¬ k = 2 ∧ ¬ k = 3 ∧ ¬ k = 4) by omega) with c1_1 | c1_1 | c1_1 | c1_1 | c1_1
  · refine a_tblIn (tgt := 32) 0 dX9_fareBy_1 ⟨by omega, by omega⟩ rfl (by decide) ?_
    refine a_iload_n (j := 1) dX9_fareBy_32 rfl rfl ?_
    refine a_iconst dX9_fareBy_33 ⟨by decide, by decide⟩ ?_
    refine a_idiv (z := (p / 2)) dX9_fareBy_34 (by omega) (w_divN (by omega) (by omega) (by omega)) ?_
    exact a_iret dX9_fareBy_35 rfl (post_v kQ (by unfold farF; split <;> (try split) <;> (try split) <;> omega))
  · refine a_tblIn (tgt := 36) 1 dX9_fareBy_1 ⟨by omega, by omega⟩ rfl (by decide) ?_
    refine a_iload_n (j := 1) dX9_fareBy_36 rfl rfl ?_
    refine a_bipush dX9_fareBy_37 ⟨by decide, by decide, by decide⟩ ?_
    refine a_iadd (z := (p + 10)) dX9_fareBy_39 (w_ok (by omega) (by omega)) ?_
    exact a_iret dX9_fareBy_40 rfl (post_v kQ (by unfold farF; split <;> (try split) <;> (try split) <;> omega))
  · refine a_tblIn (tgt := 32) 2 dX9_fareBy_1 ⟨by omega, by omega⟩ rfl (by decide) ?_
    refine a_iload_n (j := 1) dX9_fareBy_32 rfl rfl ?_
    refine a_iconst dX9_fareBy_33 ⟨by decide, by decide⟩ ?_
    refine a_idiv (z := (p / 2)) dX9_fareBy_34 (by omega) (w_divN (by omega) (by omega) (by omega)) ?_
    exact a_iret dX9_fareBy_35 rfl (post_v kQ (by unfold farF; split <;> (try split) <;> (try split) <;> omega))
  · refine a_tblIn (tgt := 41) 3 dX9_fareBy_1 ⟨by omega, by omega⟩ rfl (by decide) ?_
    refine a_iconst dX9_fareBy_41 ⟨by decide, by decide⟩ ?_
    refine a_iload_n (j := 1) dX9_fareBy_42 rfl rfl ?_
    refine a_bipush dX9_fareBy_43 ⟨by decide, by decide, by decide⟩ ?_
    refine a_iadd (z := (p + 10)) dX9_fareBy_45 (w_ok (by omega) (by omega)) ?_
    refine a_imul (z := (2 * (p + 10))) dX9_fareBy_46 (w_ok (by omega) (by omega)) ?_
    exact a_iret dX9_fareBy_47 rfl (post_v kQ (by unfold farF; split <;> (try split) <;> (try split) <;> omega))
  · refine a_tblOut (tgt := 48) dX9_fareBy_1 (by omega) (by decide) ?_
    refine a_iload_n (j := 1) dX9_fareBy_48 rfl rfl ?_
    exact a_iret dX9_fareBy_49 rfl (post_v kQ (by unfold farF; split <;> (try split) <;> (try split) <;> omega))
set_option maxHeartbeats 8000000 in
theorem c_X9_isUnder {γ : GT} {d : Nat} {k o : Int} {h : Nat → Nat → Int} {τ : List AC} {Post : Option AV → List AC → Prop} (hd : 0 ≤ d) (kT : (o = 0 ∨ k = o ∨ (o = 1 ∧ k = 3) ∨ (o = 2 ∧ k = 4)) → Post (some (vI 1)) (mk h τ)) (kF : ¬ ((o = 0 ∨ k = o ∨ (o = 1 ∧ k = 3) ∨ (o = 2 ∧ k = 4))) → Post (some (vI 0)) (mk h τ)) : Cj γ mX9_isUnder d 0 0 [vI k, vI o] (mk h τ) Post := by
  refine c_of (by decide) (Nat.le_of_ble_eq_true rfl) ?_
  show Aj γ mX9_isUnder d 0 0 Post 0 [(0, vI k), (1, vI o)] [] (mk h τ)
  refine a_iload_n (j := 1) dX9_isUnder_0 rfl rfl ?_
  refine a_if_eq (tgt := 29) dX9_isUnder_1 (by decide) (fun c1_1 => ?_) (fun c1_1 => ?_)
  · refine a_iconst dX9_isUnder_29 ⟨by decide, by decide⟩ ?_
    refine a_goto (tgt := 34) dX9_isUnder_30 (by decide) ?_
    exact a_zret dX9_isUnder_34 rfl (by first | exact Or.inl rfl | exact Or.inr rfl | omega) (kT (by omega))
  · refine a_iload_n (j := 0) dX9_isUnder_4 rfl rfl ?_
    refine a_iload_n (j := 1) dX9_isUnder_5 rfl rfl ?_
    refine a_icmp_eq (tgt := 29) dX9_isUnder_6 (by decide) (fun c6_2 => ?_) (fun c6_2 => ?_)
    · refine a_iconst dX9_isUnder_29 ⟨by decide, by decide⟩ ?_
      refine a_goto (tgt := 34) dX9_isUnder_30 (by decide) ?_
      exact a_zret dX9_isUnder_34 rfl (by first | exact Or.inl rfl | exact Or.inr rfl | omega) (kT (by omega))
    · refine a_iload_n (j := 1) dX9_isUnder_9 rfl rfl ?_
      refine a_iconst dX9_isUnder_10 ⟨by decide, by decide⟩ ?_
      refine a_icmp_ne (tgt := 19) dX9_isUnder_11 (by decide) (fun c11_3 => ?_) (fun c11_3 => ?_)
      · refine a_iload_n (j := 1) dX9_isUnder_19 rfl rfl ?_
        refine a_iconst dX9_isUnder_20 ⟨by decide, by decide⟩ ?_
        refine a_icmp_ne (tgt := 33) dX9_isUnder_21 (by decide) (fun c21_4 => ?_) (fun c21_4 => ?_)
        · refine a_iconst dX9_isUnder_33 ⟨by decide, by decide⟩ ?_
          exact a_zret dX9_isUnder_34 rfl (by first | exact Or.inl rfl | exact Or.inr rfl | omega) (kF (by omega))
        · refine a_iload_n (j := 0) dX9_isUnder_24 rfl rfl ?_
          refine a_iconst dX9_isUnder_25 ⟨by decide, by decide⟩ ?_
          refine a_icmp_ne (tgt := 33) dX9_isUnder_26 (by decide) (fun c26_5 => ?_) (fun c26_5 => ?_)
          · refine a_iconst dX9_isUnder_33 ⟨by decide, by decide⟩ ?_
            exact a_zret dX9_isUnder_34 rfl (by first | exact Or.inl rfl | exact Or.inr rfl | omega) (kF (by omega))
          · refine a_iconst dX9_isUnder_29 ⟨by decide, by decide⟩ ?_
            refine a_goto (tgt := 34) dX9_isUnder_30 (by decide) ?_
            exact a_zret dX9_isUnder_34 rfl (by first | exact Or.inl rfl | exact Or.inr rfl | omega) (kT (by omega))
      · refine a_iload_n (j := 0) dX9_isUnder_14 rfl rfl ?_
        refine a_iconst dX9_isUnder_15 ⟨by decide, by decide⟩ ?_
        refine a_icmp_eq (tgt := 29) dX9_isUnder_16 (by decide) (fun c16_6 => ?_) (fun c16_6 => ?_)
        · refine a_iconst dX9_isUnder_29 ⟨by decide, by decide⟩ ?_
          refine a_goto (tgt := 34) dX9_isUnder_30 (by decide) ?_
          exact a_zret dX9_isUnder_34 rfl (by first | exact Or.inl rfl | exact Or.inr rfl | omega) (kT (by omega))
        · refine a_iload_n (j := 1) dX9_isUnder_19 rfl rfl ?_
          refine a_iconst dX9_isUnder_20 ⟨by decide, by decide⟩ ?_
          refine a_icmp_ne (tgt := 33) dX9_isUnder_21 (by decide) (fun c21_7 => ?_) (fun c21_7 => absurd c21_7 (by omega))
          refine a_iconst dX9_isUnder_33 ⟨by decide, by decide⟩ ?_
          exact a_zret dX9_isUnder_34 rfl (by first | exact Or.inl rfl | exact Or.inr rfl | omega) (kF (by omega))
set_option maxHeartbeats 8000000 in
theorem c_X9_areChances {γ : GT} {d : Nat} {a b c : Int} {h : Nat → Nat → Int} {τ : List AC} {Post : Option AV → List AC → Prop} (hd : 1 ≤ d) (kT : (0 ≤ a ∧ a ≤ 100) ∧ (0 ≤ b ∧ b ≤ 100) ∧ (0 ≤ c ∧ c ≤ 100) ∧ a + b + c ≤ 100 → Post (some (vI 1)) (mk h τ)) (kF : ¬ ((0 ≤ a ∧ a ≤ 100) ∧ (0 ≤ b ∧ b ≤ 100) ∧ (0 ≤ c ∧ c ≤ 100) ∧ a + b + c ≤ 100) → Post (some (vI 0)) (mk h τ)) : Cj γ mX9_areChances d 0 0 [vI a, vI b, vI c] (mk h τ) Post := by
  refine c_of (by decide) (Nat.le_of_ble_eq_true rfl) ?_
  show Aj γ mX9_areChances d 0 0 Post 0 [(0, vI a), (1, vI b), (2, vI c)] [] (mk h τ)
  refine a_iload_n (j := 0) dX9_areChances_0 rfl rfl ?_
  refine a_iconst dX9_areChances_1 ⟨by decide, by decide⟩ ?_
  refine a_bipush dX9_areChances_2 ⟨by decide, by decide, by decide⟩ ?_
  refine a_callS (d' := d - 1) (mc' := 0) (ms' := 0) (mc1 := 0) (ms1 := 0) (st := []) [vI a, vI 0, vI 100] dX9_areChances_4 mwX9_in lkX9_103 rfl (Nat.le_of_ble_eq_true rfl) (by omega) rfl rfl (c_X9_in  (by omega)    (fun t4_1 => ?_) (fun t4_1 => ?_))
  · have t4_1 : 0 ≤ a ∧ a ≤ 100 := t4_1
    show Aj γ mX9_areChances d 0 0 Post 7 [(0, vI a), (1, vI b), (2, vI c)] [vI 1] (mk h τ)
    refine a_if_eq (tgt := 44) dX9_areChances_7 (by decide) (fun c => absurd c (by decide)) (fun _ => ?_)
    refine a_iload_n (j := 1) dX9_areChances_10 rfl rfl ?_
    refine a_iconst dX9_areChances_11 ⟨by decide, by decide⟩ ?_
    refine a_bipush dX9_areChances_12 ⟨by decide, by decide, by decide⟩ ?_
    refine a_callS (d' := d - 1) (mc' := 0) (ms' := 0) (mc1 := 0) (ms1 := 0) (st := []) [vI b, vI 0, vI 100] dX9_areChances_14 mwX9_in lkX9_103 rfl (Nat.le_of_ble_eq_true rfl) (by omega) rfl rfl (c_X9_in  (by omega)    (fun t14_2 => ?_) (fun t14_2 => ?_))
    · have t14_2 : 0 ≤ b ∧ b ≤ 100 := t14_2
      show Aj γ mX9_areChances d 0 0 Post 17 [(0, vI a), (1, vI b), (2, vI c)] [vI 1] (mk h τ)
      refine a_if_eq (tgt := 44) dX9_areChances_17 (by decide) (fun c => absurd c (by decide)) (fun _ => ?_)
      refine a_iload_n (j := 2) dX9_areChances_20 rfl rfl ?_
      refine a_iconst dX9_areChances_21 ⟨by decide, by decide⟩ ?_
      refine a_bipush dX9_areChances_22 ⟨by decide, by decide, by decide⟩ ?_
      refine a_callS (d' := d - 1) (mc' := 0) (ms' := 0) (mc1 := 0) (ms1 := 0) (st := []) [vI c, vI 0, vI 100] dX9_areChances_24 mwX9_in lkX9_103 rfl (Nat.le_of_ble_eq_true rfl) (by omega) rfl rfl (c_X9_in  (by omega)    (fun t24_3 => ?_) (fun t24_3 => ?_))
      · have t24_3 : 0 ≤ c ∧ c ≤ 100 := t24_3
        show Aj γ mX9_areChances d 0 0 Post 27 [(0, vI a), (1, vI b), (2, vI c)] [vI 1] (mk h τ)
        refine a_if_eq (tgt := 44) dX9_areChances_27 (by decide) (fun c => absurd c (by decide)) (fun _ => ?_)
        refine a_iload_n (j := 0) dX9_areChances_30 rfl rfl ?_
        refine a_iload_n (j := 1) dX9_areChances_31 rfl rfl ?_
        refine a_iadd (z := (a + b)) dX9_areChances_32 (w_ok (by omega) (by omega)) ?_
        refine a_iload_n (j := 2) dX9_areChances_33 rfl rfl ?_
        refine a_iadd (z := ((a + b) + c)) dX9_areChances_34 (w_ok (by omega) (by omega)) ?_
        refine a_bipush dX9_areChances_35 ⟨by decide, by decide, by decide⟩ ?_
        refine a_icmp_gt (tgt := 44) dX9_areChances_37 (by decide) (fun c37_4 => ?_) (fun c37_4 => ?_)
        · refine a_iconst dX9_areChances_44 ⟨by decide, by decide⟩ ?_
          exact a_zret dX9_areChances_45 rfl (by first | exact Or.inl rfl | exact Or.inr rfl | omega) (kF (by omega))
        · refine a_iconst dX9_areChances_40 ⟨by decide, by decide⟩ ?_
          refine a_goto (tgt := 45) dX9_areChances_41 (by decide) ?_
          exact a_zret dX9_areChances_45 rfl (by first | exact Or.inl rfl | exact Or.inr rfl | omega) (kT (by omega))
      · have t24_3 : ¬ (0 ≤ c ∧ c ≤ 100) := t24_3
        show Aj γ mX9_areChances d 0 0 Post 27 [(0, vI a), (1, vI b), (2, vI c)] [vI 0] (mk h τ)
        refine a_if_eq (tgt := 44) dX9_areChances_27 (by decide) (fun _ => ?_) (fun c => absurd c (by decide))
        refine a_iconst dX9_areChances_44 ⟨by decide, by decide⟩ ?_
        exact a_zret dX9_areChances_45 rfl (by first | exact Or.inl rfl | exact Or.inr rfl | omega) (kF (by omega))
    · have t14_2 : ¬ (0 ≤ b ∧ b ≤ 100) := t14_2
      show Aj γ mX9_areChances d 0 0 Post 17 [(0, vI a), (1, vI b), (2, vI c)] [vI 0] (mk h τ)
      refine a_if_eq (tgt := 44) dX9_areChances_17 (by decide) (fun _ => ?_) (fun c => absurd c (by decide))
      refine a_iconst dX9_areChances_44 ⟨by decide, by decide⟩ ?_
      exact a_zret dX9_areChances_45 rfl (by first | exact Or.inl rfl | exact Or.inr rfl | omega) (kF (by omega))
  · have t4_1 : ¬ (0 ≤ a ∧ a ≤ 100) := t4_1
    show Aj γ mX9_areChances d 0 0 Post 7 [(0, vI a), (1, vI b), (2, vI c)] [vI 0] (mk h τ)
    refine a_if_eq (tgt := 44) dX9_areChances_7 (by decide) (fun _ => ?_) (fun c => absurd c (by decide))
    refine a_iconst dX9_areChances_44 ⟨by decide, by decide⟩ ?_
    exact a_zret dX9_areChances_45 rfl (by first | exact Or.inl rfl | exact Or.inr rfl | omega) (kF (by omega))
set_option maxHeartbeats 8000000 in
theorem c_X9_setsChances {γ : GT} {d : Nat} {t a b c : Int} {h : Nat → Nat → Int} {τ : List AC} {Post : Option AV → List AC → Prop} (hd : 0 ≤ d) (hT : 0 ≤ t ∧ t ≤ 11) (hC : (0 ≤ a ∧ a ≤ 100) ∧ (0 ≤ b ∧ b ≤ 100) ∧ (0 ≤ c ∧ c ≤ 100)) (kQ : Post (some (vI (100 - a - b - c))) (mk (up2 (up2 (up2 (up2 (up2 h 124 (Int.toNat ((15 + (11 * t)) + 7)) (((100 - a) - b) - c)) 124 (Int.toNat (((15 + (11 * t)) + 7) + 1)) a) 124 (Int.toNat (((15 + (11 * t)) + 7) + 2)) b) 124 (Int.toNat (((15 + (11 * t)) + 7) + 3)) c) 123 4 0) τ)) : Cj γ mX9_setsChances d 0 0 [vA 123, vI t, vI a, vI b, vI c] (mk h τ) Post := by
  refine c_of (by decide) (Nat.le_of_ble_eq_true rfl) ?_
  show Aj γ mX9_setsChances d 0 0 Post 0 [(0, vA 123), (1, vI t), (2, vI a), (3, vI b), (4, vI c)] [] (mk h τ)
  refine a_bipush dX9_setsChances_0 ⟨by decide, by decide, by decide⟩ ?_
  refine a_bipush dX9_setsChances_2 ⟨by decide, by decide, by decide⟩ ?_
  refine a_iload_n (j := 1) dX9_setsChances_4 rfl rfl ?_
  refine a_imul (z := (11 * t)) dX9_setsChances_5 (w_ok (by omega) (by omega)) ?_
  refine a_iadd (z := (15 + (11 * t))) dX9_setsChances_6 (w_ok (by omega) (by omega)) ?_
  refine a_bipush dX9_setsChances_7 ⟨by decide, by decide, by decide⟩ ?_
  refine a_iadd (z := ((15 + (11 * t)) + 7)) dX9_setsChances_9 (w_ok (by omega) (by omega)) ?_
  refine a_istore (lv' := [(5, vI ((15 + (11 * t)) + 7)), (0, vA 123), (1, vI t), (2, vI a), (3, vI b), (4, vI c)]) dX9_setsChances_10 (by decide) rfl ?_
  refine a_aload_n (j := 1) dX9_setsChances_12 rfl rfl (Nat.le_of_ble_eq_true rfl) ?_
  refine b_getp (a := 123) (p := 124) dX9_setsChances_13 fwX9_9 (by decide) rfl (by decide) rfl rfl ?_
  refine a_iload (j := 0) dX9_setsChances_16 rfl ?_
  refine a_bipush dX9_setsChances_18 ⟨by decide, by decide, by decide⟩ ?_
  refine a_iload_n (j := 3) dX9_setsChances_20 rfl rfl ?_
  refine a_isub (z := (100 - a)) dX9_setsChances_21 (w_ok (by omega) (by omega)) ?_
  refine a_iload_n (j := 4) dX9_setsChances_22 rfl rfl ?_
  refine a_isub (z := ((100 - a) - b)) dX9_setsChances_23 (w_ok (by omega) (by omega)) ?_
  refine a_iload (j := 5) dX9_setsChances_24 rfl ?_
  refine a_isub (z := (((100 - a) - b) - c)) dX9_setsChances_26 (w_ok (by omega) (by omega)) ?_
  refine b_iastore (a := 124) (Int.toNat ((15 + (11 * t)) + 7)) dX9_setsChances_27 (by decide) rfl (by omega) (by omega) (sp_nil rfl _) ?_
  refine a_aload_n (j := 1) dX9_setsChances_28 rfl rfl (Nat.le_of_ble_eq_true rfl) ?_
  refine b_getp (a := 123) (p := 124) dX9_setsChances_29 fwX9_9 (by decide) rfl (by decide) rfl rfl ?_
  refine a_iload (j := 0) dX9_setsChances_32 rfl ?_
  refine a_iconst dX9_setsChances_34 ⟨by decide, by decide⟩ ?_
  refine a_iadd (z := (((15 + (11 * t)) + 7) + 1)) dX9_setsChances_35 (w_ok (by omega) (by omega)) ?_
  refine a_iload_n (j := 3) dX9_setsChances_36 rfl rfl ?_
  refine b_iastore (a := 124) (Int.toNat (((15 + (11 * t)) + 7) + 1)) dX9_setsChances_37 (by decide) rfl (by omega) (by omega) (sp_nil rfl _) ?_
  refine a_aload_n (j := 1) dX9_setsChances_38 rfl rfl (Nat.le_of_ble_eq_true rfl) ?_
  refine b_getp (a := 123) (p := 124) dX9_setsChances_39 fwX9_9 (by decide) rfl (by decide) rfl rfl ?_
  refine a_iload (j := 0) dX9_setsChances_42 rfl ?_
  refine a_iconst dX9_setsChances_44 ⟨by decide, by decide⟩ ?_
  refine a_iadd (z := (((15 + (11 * t)) + 7) + 2)) dX9_setsChances_45 (w_ok (by omega) (by omega)) ?_
  refine a_iload_n (j := 4) dX9_setsChances_46 rfl rfl ?_
  refine b_iastore (a := 124) (Int.toNat (((15 + (11 * t)) + 7) + 2)) dX9_setsChances_47 (by decide) rfl (by omega) (by omega) (sp_nil rfl _) ?_
  refine a_aload_n (j := 1) dX9_setsChances_48 rfl rfl (Nat.le_of_ble_eq_true rfl) ?_
  refine b_getp (a := 123) (p := 124) dX9_setsChances_49 fwX9_9 (by decide) rfl (by decide) rfl rfl ?_
  refine a_iload (j := 0) dX9_setsChances_52 rfl ?_
  refine a_iconst dX9_setsChances_54 ⟨by decide, by decide⟩ ?_
  refine a_iadd (z := (((15 + (11 * t)) + 7) + 3)) dX9_setsChances_55 (w_ok (by omega) (by omega)) ?_
  refine a_iload (j := 5) dX9_setsChances_56 rfl ?_
  refine b_iastore (a := 124) (Int.toNat (((15 + (11 * t)) + 7) + 3)) dX9_setsChances_58 (by decide) rfl (by omega) (by omega) (sp_nil rfl _) ?_
  refine a_aload_n (j := 1) dX9_setsChances_59 rfl rfl (Nat.le_of_ble_eq_true rfl) ?_
  refine a_iconst dX9_setsChances_60 ⟨by decide, by decide⟩ ?_
  refine b_put (a := 123) (v := vI 0) dX9_setsChances_61 pwX9_111 (fun h => nomatch h) (by decide) rfl (by decide) rfl rfl (fit_bool (by first | exact Or.inl rfl | exact Or.inr rfl | omega)) ?_
  show Aj γ mX9_setsChances d 0 0 Post 64 [(5, vI ((15 + (11 * t)) + 7)), (0, vA 123), (1, vI t), (2, vI a), (3, vI b), (4, vI c)] [] (mk (up2 (up2 (up2 (up2 (up2 h 124 (Int.toNat ((15 + (11 * t)) + 7)) (((100 - a) - b) - c)) 124 (Int.toNat (((15 + (11 * t)) + 7) + 1)) a) 124 (Int.toNat (((15 + (11 * t)) + 7) + 2)) b) 124 (Int.toNat (((15 + (11 * t)) + 7) + 3)) c) 123 4 0) τ)
  refine a_aload_n (j := 1) dX9_setsChances_64 rfl rfl (Nat.le_of_ble_eq_true rfl) ?_
  refine b_getp (a := 123) (p := 124) dX9_setsChances_65 fwX9_9 (by decide) rfl (by decide) rfl rfl ?_
  refine a_iload (j := 0) dX9_setsChances_68 rfl ?_
  refine b_iaload (a := 124) (z := (((100 - a) - b) - c)) (Int.toNat ((15 + (11 * t)) + 7)) dX9_setsChances_70 (by decide) rfl (by omega) (by omega) (sp_nil rfl _) ((up2_ne (by omega)).trans ((up2_ne (by omega)).trans ((up2_ne (by omega)).trans ((up2_ne (by omega)).trans up2_at)))) (fun r70_1 => ?_)
  exact a_iret dX9_setsChances_71 rfl (post_v kQ (by omega))
set_option maxHeartbeats 8000000 in
theorem c_X9_areTwo {γ : GT} {d : Nat} {a b : Int} {h : Nat → Nat → Int} {τ : List AC} {Post : Option AV → List AC → Prop} (hd : 2 ≤ d) {v1 : Int} (e1 : h 124 5 = v1) (hN : 0 ≤ v1 ∧ v1 ≤ 12) (kT : (0 ≤ a ∧ a < v1) ∧ (0 ≤ b ∧ b < v1) ∧ ¬ a = b → Post (some (vI 1)) (mk h τ)) (kF : ¬ ((0 ≤ a ∧ a < v1) ∧ (0 ≤ b ∧ b < v1) ∧ ¬ a = b) → Post (some (vI 0)) (mk h τ)) : Cj γ mX9_areTwo d 0 0 [vA 123, vI a, vI b] (mk h τ) Post := by
  refine c_of (by decide) (Nat.le_of_ble_eq_true rfl) ?_
  show Aj γ mX9_areTwo d 0 0 Post 0 [(0, vA 123), (1, vI a), (2, vI b)] [] (mk h τ)
  refine a_aload_n (j := 0) dX9_areTwo_0 rfl rfl (Nat.le_of_ble_eq_true rfl) ?_
  refine a_iload_n (j := 1) dX9_areTwo_1 rfl rfl ?_
  refine b_callV (d' := d - 1) (mc' := 0) (ms' := 0) (mc1 := 0) (ms1 := 0) (st := []) (b := 123) [vI a] dX9_areTwo_2 mwX9_isTrain lkX9_152 (by decide) rfl rc_X9 rfl (Nat.le_of_ble_eq_true rfl) (by omega) rfl rfl (c_X9_isTrain (v1 := v1) (by omega)  e1 (show 0 ≤ v1 ∧ v1 ≤ 12 by omega) (fun t2_1 => ?_) (fun t2_1 => ?_))
  · have t2_1 : 0 ≤ a ∧ a < v1 := t2_1
    show Aj γ mX9_areTwo d 0 0 Post 5 [(0, vA 123), (1, vI a), (2, vI b)] [vI 1] (mk h τ)
    refine a_if_eq (tgt := 25) dX9_areTwo_5 (by decide) (fun c => absurd c (by decide)) (fun _ => ?_)
    refine a_aload_n (j := 0) dX9_areTwo_8 rfl rfl (Nat.le_of_ble_eq_true rfl) ?_
    refine a_iload_n (j := 2) dX9_areTwo_9 rfl rfl ?_
    refine b_callV (d' := d - 1) (mc' := 0) (ms' := 0) (mc1 := 0) (ms1 := 0) (st := []) (b := 123) [vI b] dX9_areTwo_10 mwX9_isTrain lkX9_152 (by decide) rfl rc_X9 rfl (Nat.le_of_ble_eq_true rfl) (by omega) rfl rfl (c_X9_isTrain (v1 := v1) (by omega)  e1 (show 0 ≤ v1 ∧ v1 ≤ 12 by omega) (fun t10_2 => ?_) (fun t10_2 => ?_))
    · have t10_2 : 0 ≤ b ∧ b < v1 := t10_2
      show Aj γ mX9_areTwo d 0 0 Post 13 [(0, vA 123), (1, vI a), (2, vI b)] [vI 1] (mk h τ)
      refine a_if_eq (tgt := 25) dX9_areTwo_13 (by decide) (fun c => absurd c (by decide)) (fun _ => ?_)
      refine a_iload_n (j := 1) dX9_areTwo_16 rfl rfl ?_
      refine a_iload_n (j := 2) dX9_areTwo_17 rfl rfl ?_
      refine a_icmp_eq (tgt := 25) dX9_areTwo_18 (by decide) (fun c18_3 => ?_) (fun c18_3 => ?_)
      · refine a_iconst dX9_areTwo_25 ⟨by decide, by decide⟩ ?_
        exact a_zret dX9_areTwo_26 rfl (by first | exact Or.inl rfl | exact Or.inr rfl | omega) (kF (by omega))
      · refine a_iconst dX9_areTwo_21 ⟨by decide, by decide⟩ ?_
        refine a_goto (tgt := 26) dX9_areTwo_22 (by decide) ?_
        exact a_zret dX9_areTwo_26 rfl (by first | exact Or.inl rfl | exact Or.inr rfl | omega) (kT (by omega))
    · have t10_2 : ¬ (0 ≤ b ∧ b < v1) := t10_2
      show Aj γ mX9_areTwo d 0 0 Post 13 [(0, vA 123), (1, vI a), (2, vI b)] [vI 0] (mk h τ)
      refine a_if_eq (tgt := 25) dX9_areTwo_13 (by decide) (fun _ => ?_) (fun c => absurd c (by decide))
      refine a_iconst dX9_areTwo_25 ⟨by decide, by decide⟩ ?_
      exact a_zret dX9_areTwo_26 rfl (by first | exact Or.inl rfl | exact Or.inr rfl | omega) (kF (by omega))
  · have t2_1 : ¬ (0 ≤ a ∧ a < v1) := t2_1
    show Aj γ mX9_areTwo d 0 0 Post 5 [(0, vA 123), (1, vI a), (2, vI b)] [vI 0] (mk h τ)
    refine a_if_eq (tgt := 25) dX9_areTwo_5 (by decide) (fun _ => ?_) (fun c => absurd c (by decide))
    refine a_iconst dX9_areTwo_25 ⟨by decide, by decide⟩ ?_
    exact a_zret dX9_areTwo_26 rfl (by first | exact Or.inl rfl | exact Or.inr rfl | omega) (kF (by omega))
set_option maxHeartbeats 8000000 in
theorem c_X9_stop {γ : GT} {d : Nat} {w : Int} {h : Nat → Nat → Int} {τ : List AC} {Post : Option AV → List AC → Prop} (hd : 2 ≤ d) {v1 : Int} (e1 : h 124 4 = v1) (hS : 0 ≤ v1 ∧ v1 ≤ 6) (k1 : (0 ≤ w ∧ w ≤ 99) → (¬ v1 = 6) → Post (some (vI ((v1 + 1) - 1))) (mk (up2 (up2 (up2 h 124 (Int.toNat (9 + v1)) w) 124 4 (v1 + 1)) 123 4 0) τ)) (k2 : (0 ≤ w ∧ w ≤ 99) → (v1 = 6) → Post (some (vI (-1000000003))) (mk h τ)) (k3 : (¬ (0 ≤ w ∧ w ≤ 99)) → Post (some (vI (-1000000001))) (mk h τ)) : Cj γ mX9_stop d 0 0 [vA 123, vI w] (mk h τ) Post := by
  refine c_of (by decide) (Nat.le_of_ble_eq_true rfl) ?_
  show Aj γ mX9_stop d 0 0 Post 0 [(0, vA 123), (1, vI w)] [] (mk h τ)
  refine a_iload_n (j := 1) dX9_stop_0 rfl rfl ?_
  refine a_iconst dX9_stop_1 ⟨by decide, by decide⟩ ?_
  refine a_bipush dX9_stop_2 ⟨by decide, by decide, by decide⟩ ?_
  refine a_callS (d' := d - 1) (mc' := 0) (ms' := 0) (mc1 := 0) (ms1 := 0) (st := []) [vI w, vI 0, vI 99] dX9_stop_4 mwX9_in lkX9_103 rfl (Nat.le_of_ble_eq_true rfl) (by omega) rfl rfl (c_X9_in  (by omega)    (fun t4_1 => ?_) (fun t4_1 => ?_))
  · have t4_1 : 0 ≤ w ∧ w ≤ 99 := t4_1
    show Aj γ mX9_stop d 0 0 Post 7 [(0, vA 123), (1, vI w)] [vI 1] (mk h τ)
    refine a_if_ne (tgt := 13) dX9_stop_7 (by decide) (fun _ => ?_) (fun c => absurd c (by decide))
    refine a_aload_n (j := 0) dX9_stop_13 rfl rfl (Nat.le_of_ble_eq_true rfl) ?_
    refine b_getp (a := 123) (p := 124) dX9_stop_14 fwX9_9 (by decide) rfl (by decide) rfl rfl ?_
    refine a_iconst dX9_stop_17 ⟨by decide, by decide⟩ ?_
    refine b_iaload (a := 124) (z := v1) 4 dX9_stop_18 (by decide) rfl rfl (by decide) rfl e1 (fun r18_2 => ?_)
    refine a_bipush dX9_stop_19 ⟨by decide, by decide, by decide⟩ ?_
    refine a_icmp_ne (tgt := 27) dX9_stop_21 (by decide) (fun c21_3 => ?_) (fun c21_3 => ?_)
    · refine a_aload_n (j := 0) dX9_stop_27 rfl rfl (Nat.le_of_ble_eq_true rfl) ?_
      refine b_getp (a := 123) (p := 124) dX9_stop_28 fwX9_9 (by decide) rfl (by decide) rfl rfl ?_
      refine a_bipush dX9_stop_31 ⟨by decide, by decide, by decide⟩ ?_
      refine a_aload_n (j := 0) dX9_stop_33 rfl rfl (Nat.le_of_ble_eq_true rfl) ?_
      refine b_getp (a := 123) (p := 124) dX9_stop_34 fwX9_9 (by decide) rfl (by decide) rfl rfl ?_
      refine a_iconst dX9_stop_37 ⟨by decide, by decide⟩ ?_
      refine b_iaload (a := 124) (z := v1) 4 dX9_stop_38 (by decide) rfl rfl (by decide) rfl e1 (fun r38_4 => ?_)
      refine a_iadd (z := (9 + v1)) dX9_stop_39 (w_ok (by omega) (by omega)) ?_
      refine a_iload_n (j := 1) dX9_stop_40 rfl rfl ?_
      refine b_iastore (a := 124) (Int.toNat (9 + v1)) dX9_stop_41 (by decide) rfl (by omega) (by omega) (sp_nil rfl _) ?_
      refine a_aload_n (j := 0) dX9_stop_42 rfl rfl (Nat.le_of_ble_eq_true rfl) ?_
      refine b_getp (a := 123) (p := 124) dX9_stop_43 fwX9_9 (by decide) rfl (by decide) rfl rfl ?_
      refine a_iconst dX9_stop_46 ⟨by decide, by decide⟩ ?_
      refine a_dup2 dX9_stop_47 (fun h => nomatch h) (fun h => nomatch h) ?_
      refine b_iaload (a := 124) (z := v1) 4 dX9_stop_48 (by decide) rfl rfl (by decide) rfl ((up2_ne (by omega)).trans e1) (fun r48_5 => ?_)
      refine a_iconst dX9_stop_49 ⟨by decide, by decide⟩ ?_
      refine a_iadd (z := (v1 + 1)) dX9_stop_50 (w_ok (by omega) (by omega)) ?_
      refine b_iastore (a := 124) 4 dX9_stop_51 (by decide) rfl rfl (by decide) rfl ?_
      refine a_aload_n (j := 0) dX9_stop_52 rfl rfl (Nat.le_of_ble_eq_true rfl) ?_
      refine a_iconst dX9_stop_53 ⟨by decide, by decide⟩ ?_
      refine b_put (a := 123) (v := vI 0) dX9_stop_54 pwX9_111 (fun h => nomatch h) (by decide) rfl (by decide) rfl rfl (fit_bool (by first | exact Or.inl rfl | exact Or.inr rfl | omega)) ?_
      show Aj γ mX9_stop d 0 0 Post 57 [(0, vA 123), (1, vI w)] [] (mk (up2 (up2 (up2 h 124 (Int.toNat (9 + v1)) w) 124 4 (v1 + 1)) 123 4 0) τ)
      refine a_aload_n (j := 0) dX9_stop_57 rfl rfl (Nat.le_of_ble_eq_true rfl) ?_
      refine b_getp (a := 123) (p := 124) dX9_stop_58 fwX9_9 (by decide) rfl (by decide) rfl rfl ?_
      refine a_iconst dX9_stop_61 ⟨by decide, by decide⟩ ?_
      refine b_iaload (a := 124) (z := (v1 + 1)) 4 dX9_stop_62 (by decide) rfl rfl (by decide) rfl ((up2_ne (by omega)).trans up2_at) (fun r62_6 => ?_)
      refine a_iconst dX9_stop_63 ⟨by decide, by decide⟩ ?_
      refine a_isub (z := ((v1 + 1) - 1)) dX9_stop_64 (w_ok (by omega) (by omega)) ?_
      exact a_iret dX9_stop_65 rfl (k1 t4_1 c21_3)
    · refine a_ldc (z := (-1000000003)) dX9_stop_24 kwX9_147 ⟨by decide, by decide, by decide⟩ ?_
      exact a_iret dX9_stop_26 rfl (k2 t4_1 c21_3)
  · have t4_1 : ¬ (0 ≤ w ∧ w ≤ 99) := t4_1
    show Aj γ mX9_stop d 0 0 Post 7 [(0, vA 123), (1, vI w)] [vI 0] (mk h τ)
    refine a_if_ne (tgt := 13) dX9_stop_7 (by decide) (fun c => absurd c (by decide)) (fun _ => ?_)
    refine a_ldc (z := (-1000000001)) dX9_stop_10 kwX9_146 ⟨by decide, by decide, by decide⟩ ?_
    exact a_iret dX9_stop_12 rfl (k3 t4_1)
set_option maxHeartbeats 8000000 in
theorem c_X9_turns {γ : GT} {d : Nat} {t k : Int} {h : Nat → Nat → Int} {τ : List AC} {Post : Option AV → List AC → Prop} (hd : 2 ≤ d) {v1 : Int} (e1 : h 124 5 = v1) {v2 : Int} (e2 : h 124 (Int.toNat ((15 + (11 * t)) + 0)) = v2) (hN : 0 ≤ v1 ∧ v1 ≤ 12) (k1 : (0 ≤ t ∧ t < v1) → (0 ≤ k ∧ k ≤ 5) → Post (some (vI v2)) (mk (up2 (up2 h 124 (Int.toNat ((15 + (11 * t)) + 0)) k) 123 4 0) τ)) (k2 : (0 ≤ t ∧ t < v1) → (¬ (0 ≤ k ∧ k ≤ 5)) → Post (some (vI (-1000000001))) (mk h τ)) (k3 : (¬ (0 ≤ t ∧ t < v1)) → Post (some (vI (-1000000001))) (mk h τ)) : Cj γ mX9_turns d 0 0 [vA 123, vI t, vI k] (mk h τ) Post := by
  refine c_of (by decide) (Nat.le_of_ble_eq_true rfl) ?_
  show Aj γ mX9_turns d 0 0 Post 0 [(0, vA 123), (1, vI t), (2, vI k)] [] (mk h τ)
  refine a_aload_n (j := 0) dX9_turns_0 rfl rfl (Nat.le_of_ble_eq_true rfl) ?_
  refine a_iload_n (j := 1) dX9_turns_1 rfl rfl ?_
  refine b_callV (d' := d - 1) (mc' := 0) (ms' := 0) (mc1 := 0) (ms1 := 0) (st := []) (b := 123) [vI t] dX9_turns_2 mwX9_isTrain lkX9_152 (by decide) rfl rc_X9 rfl (Nat.le_of_ble_eq_true rfl) (by omega) rfl rfl (c_X9_isTrain (v1 := v1) (by omega)  e1 (show 0 ≤ v1 ∧ v1 ≤ 12 by omega) (fun t2_1 => ?_) (fun t2_1 => ?_))
  · have t2_1 : 0 ≤ t ∧ t < v1 := t2_1
    show Aj γ mX9_turns d 0 0 Post 5 [(0, vA 123), (1, vI t), (2, vI k)] [vI 1] (mk h τ)
    refine a_if_eq (tgt := 27) dX9_turns_5 (by decide) (fun c => absurd c (by decide)) (fun _ => ?_)
    refine a_iload_n (j := 2) dX9_turns_8 rfl rfl ?_
    refine a_iconst dX9_turns_9 ⟨by decide, by decide⟩ ?_
    refine a_iconst dX9_turns_10 ⟨by decide, by decide⟩ ?_
    refine a_callS (d' := d - 1) (mc' := 0) (ms' := 0) (mc1 := 0) (ms1 := 0) (st := []) [vI k, vI 0, vI 5] dX9_turns_11 mwX9_in lkX9_103 rfl (Nat.le_of_ble_eq_true rfl) (by omega) rfl rfl (c_X9_in  (by omega)    (fun t11_2 => ?_) (fun t11_2 => ?_))
    · have t11_2 : 0 ≤ k ∧ k ≤ 5 := t11_2
      show Aj γ mX9_turns d 0 0 Post 14 [(0, vA 123), (1, vI t), (2, vI k)] [vI 1] (mk h τ)
      refine a_if_eq (tgt := 27) dX9_turns_14 (by decide) (fun c => absurd c (by decide)) (fun _ => ?_)
      refine a_aload_n (j := 0) dX9_turns_17 rfl rfl (Nat.le_of_ble_eq_true rfl) ?_
      refine a_iload_n (j := 1) dX9_turns_18 rfl rfl ?_
      refine a_iconst dX9_turns_19 ⟨by decide, by decide⟩ ?_
      refine a_iload_n (j := 2) dX9_turns_20 rfl rfl ?_
      refine b_callV (d' := d - 1) (mc' := 0) (ms' := 0) (mc1 := 0) (ms1 := 0) (st := []) (b := 123) [vI t, vI 0, vI k] dX9_turns_21 mwX9_becomes lkX9_172 (by decide) rfl rc_X9 rfl (Nat.le_of_ble_eq_true rfl) (by omega) rfl rfl (c_X9_becomes (v1 := v2) (by omega)  e2 (show 0 ≤ t ∧ t ≤ 11 ∧ 0 ≤ 0 ∧ 0 ≤ 10 by omega) ?_)
      show Aj γ mX9_turns d 0 0 Post 24 [(0, vA 123), (1, vI t), (2, vI k)] [vI v2] (mk (up2 (up2 h 124 (Int.toNat ((15 + (11 * t)) + 0)) k) 123 4 0) τ)
      refine a_goto (tgt := 29) dX9_turns_24 (by decide) ?_
      exact a_iret dX9_turns_29 rfl (k1 t2_1 t11_2)
    · have t11_2 : ¬ (0 ≤ k ∧ k ≤ 5) := t11_2
      show Aj γ mX9_turns d 0 0 Post 14 [(0, vA 123), (1, vI t), (2, vI k)] [vI 0] (mk h τ)
      refine a_if_eq (tgt := 27) dX9_turns_14 (by decide) (fun _ => ?_) (fun c => absurd c (by decide))
      refine a_ldc (z := (-1000000001)) dX9_turns_27 kwX9_146 ⟨by decide, by decide, by decide⟩ ?_
      exact a_iret dX9_turns_29 rfl (k2 t2_1 t11_2)
  · have t2_1 : ¬ (0 ≤ t ∧ t < v1) := t2_1
    show Aj γ mX9_turns d 0 0 Post 5 [(0, vA 123), (1, vI t), (2, vI k)] [vI 0] (mk h τ)
    refine a_if_eq (tgt := 27) dX9_turns_5 (by decide) (fun _ => ?_) (fun c => absurd c (by decide))
    refine a_ldc (z := (-1000000001)) dX9_turns_27 kwX9_146 ⟨by decide, by decide, by decide⟩ ?_
    exact a_iret dX9_turns_29 rfl (k3 t2_1)
set_option maxHeartbeats 8000000 in
theorem c_X9_set {γ : GT} {d : Nat} {t q v : Int} {h : Nat → Nat → Int} {τ : List AC} {Post : Option AV → List AC → Prop} (hd : 2 ≤ d) {v1 : Int} (e1 : h 124 5 = v1) {v2 : Int} (e2 : h 124 (Int.toNat ((15 + (11 * t)) + 4)) = v2) {v3 : Int} (e3 : h 124 (Int.toNat ((15 + (11 * t)) + 3)) = v3) {v4 : Int} (e4 : h 124 (Int.toNat ((15 + (11 * t)) + 5)) = v4) (hN : 0 ≤ v1 ∧ v1 ≤ 12) (k1 : (0 ≤ t ∧ t < v1) → (0 ≤ q ∧ q ≤ 2) → (¬ q = 2) → (¬ q = 0) → (¬ q = 1) → (0 ≤ v ∧ v ≤ 600) → (¬ q = 0) → (¬ q = 1) → Post (some (vI v2)) (mk (up2 (up2 h 124 (Int.toNat ((15 + (11 * t)) + 4)) v) 123 4 0) τ)) (k2 : (0 ≤ t ∧ t < v1) → (0 ≤ q ∧ q ≤ 2) → (¬ q = 2) → (¬ q = 0) → (¬ q = 1) → (¬ (0 ≤ v ∧ v ≤ 600)) → Post (some (vI (-1000000001))) (mk h τ)) (k3 : (0 ≤ t ∧ t < v1) → (0 ≤ q ∧ q ≤ 2) → (¬ q = 2) → (¬ q = 0) → (q = 1) → (0 ≤ v ∧ v ≤ 1439) → (¬ q = 0) → (q = 1) → Post (some (vI v3)) (mk (up2 (up2 h 124 (Int.toNat ((15 + (11 * t)) + 3)) v) 123 4 0) τ)) (k4 : (0 ≤ t ∧ t < v1) → (0 ≤ q ∧ q ≤ 2) → (¬ q = 2) → (¬ q = 0) → (q = 1) → (¬ (0 ≤ v ∧ v ≤ 1439)) → Post (some (vI (-1000000001))) (mk h τ)) (k5 : (0 ≤ t ∧ t < v1) → (0 ≤ q ∧ q ≤ 2) → (¬ q = 2) → (q = 0) → (0 ≤ v ∧ v ≤ 999) → (q = 0) → Post (some (vI v4)) (mk (up2 (up2 h 124 (Int.toNat ((15 + (11 * t)) + 5)) v) 123 4 0) τ)) (k6 : (0 ≤ t ∧ t < v1) → (0 ≤ q ∧ q ≤ 2) → (¬ q = 2) → (q = 0) → (¬ (0 ≤ v ∧ v ≤ 999)) → Post (some (vI (-1000000001))) (mk h τ)) (k7 : (0 ≤ t ∧ t < v1) → (0 ≤ q ∧ q ≤ 2) → (q = 2) → (¬ q = 0) → (¬ q = 1) → (1 ≤ v ∧ v ≤ 600) → (¬ q = 0) → (¬ q = 1) → Post (some (vI v2)) (mk (up2 (up2 h 124 (Int.toNat ((15 + (11 * t)) + 4)) v) 123 4 0) τ)) (k8 : (0 ≤ t ∧ t < v1) → (0 ≤ q ∧ q ≤ 2) → (q = 2) → (¬ q = 0) → (¬ q = 1) → (¬ (1 ≤ v ∧ v ≤ 600)) → Post (some (vI (-1000000001))) (mk h τ)) (k9 : (0 ≤ t ∧ t < v1) → (¬ (0 ≤ q ∧ q ≤ 2)) → Post (some (vI (-1000000001))) (mk h τ)) (k10 : (¬ (0 ≤ t ∧ t < v1)) → Post (some (vI (-1000000001))) (mk h τ)) : Cj γ mX9_set d 0 0 [vA 123, vI t, vI q, vI v] (mk h τ) Post := by
  refine c_of (by decide) (Nat.le_of_ble_eq_true rfl) ?_
  show Aj γ mX9_set d 0 0 Post 0 [(0, vA 123), (1, vI t), (2, vI q), (3, vI v)] [] (mk h τ)
  refine a_aload_n (j := 0) dX9_set_0 rfl rfl (Nat.le_of_ble_eq_true rfl) ?_
  refine a_iload_n (j := 1) dX9_set_1 rfl rfl ?_
  refine b_callV (d' := d - 1) (mc' := 0) (ms' := 0) (mc1 := 0) (ms1 := 0) (st := []) (b := 123) [vI t] dX9_set_2 mwX9_isTrain lkX9_152 (by decide) rfl rc_X9 rfl (Nat.le_of_ble_eq_true rfl) (by omega) rfl rfl (c_X9_isTrain (v1 := v1) (by omega)  e1 (show 0 ≤ v1 ∧ v1 ≤ 12 by omega) (fun t2_1 => ?_) (fun t2_1 => ?_))
  · have t2_1 : 0 ≤ t ∧ t < v1 := t2_1
    show Aj γ mX9_set d 0 0 Post 5 [(0, vA 123), (1, vI t), (2, vI q), (3, vI v)] [vI 1] (mk h τ)
    refine a_if_eq (tgt := 58) dX9_set_5 (by decide) (fun c => absurd c (by decide)) (fun _ => ?_)
    refine a_iload_n (j := 2) dX9_set_8 rfl rfl ?_
    refine a_iconst dX9_set_9 ⟨by decide, by decide⟩ ?_
    refine a_iconst dX9_set_10 ⟨by decide, by decide⟩ ?_
    refine a_callS (d' := d - 1) (mc' := 0) (ms' := 0) (mc1 := 0) (ms1 := 0) (st := []) [vI q, vI 0, vI 2] dX9_set_11 mwX9_in lkX9_103 rfl (Nat.le_of_ble_eq_true rfl) (by omega) rfl rfl (c_X9_in  (by omega)    (fun t11_2 => ?_) (fun t11_2 => ?_))
    · have t11_2 : 0 ≤ q ∧ q ≤ 2 := t11_2
      show Aj γ mX9_set d 0 0 Post 14 [(0, vA 123), (1, vI t), (2, vI q), (3, vI v)] [vI 1] (mk h τ)
      refine a_if_eq (tgt := 58) dX9_set_14 (by decide) (fun c => absurd c (by decide)) (fun _ => ?_)
      refine a_iload_n (j := 3) dX9_set_17 rfl rfl ?_
      refine a_iload_n (j := 2) dX9_set_18 rfl rfl ?_
      refine a_iconst dX9_set_19 ⟨by decide, by decide⟩ ?_
      refine a_icmp_ne (tgt := 27) dX9_set_20 (by decide) (fun c20_3 => ?_) (fun c20_3 => ?_)
      · refine a_iconst dX9_set_27 ⟨by decide, by decide⟩ ?_
        refine a_iload_n (j := 2) dX9_set_28 rfl rfl ?_
        refine a_if_ne (tgt := 38) dX9_set_29 (by decide) (fun c29_4 => ?_) (fun c29_4 => ?_)
        · refine a_iload_n (j := 2) dX9_set_38 rfl rfl ?_
          refine a_iconst dX9_set_39 ⟨by decide, by decide⟩ ?_
          refine a_icmp_ne (tgt := 49) dX9_set_40 (by decide) (fun c40_5 => ?_) (fun c40_5 => ?_)
          · refine a_sipush dX9_set_49 ⟨by decide, by decide, by decide⟩ ?_
            refine a_callS (d' := d - 1) (mc' := 0) (ms' := 0) (mc1 := 0) (ms1 := 0) (st := []) [vI v, vI 0, vI 600] dX9_set_52 mwX9_in lkX9_103 rfl (Nat.le_of_ble_eq_true rfl) (by omega) rfl rfl (c_X9_in  (by omega)    (fun t52_6 => ?_) (fun t52_6 => ?_))
            · have t52_6 : 0 ≤ v ∧ v ≤ 600 := t52_6
              show Aj γ mX9_set d 0 0 Post 55 [(0, vA 123), (1, vI t), (2, vI q), (3, vI v)] [vI 1] (mk h τ)
              refine a_if_ne (tgt := 61) dX9_set_55 (by decide) (fun _ => ?_) (fun c => absurd c (by decide))
              refine a_aload_n (j := 0) dX9_set_61 rfl rfl (Nat.le_of_ble_eq_true rfl) ?_
              refine a_iload_n (j := 1) dX9_set_62 rfl rfl ?_
              refine a_iload_n (j := 2) dX9_set_63 rfl rfl ?_
              refine a_if_ne (tgt := 71) dX9_set_64 (by decide) (fun c64_7 => ?_) (fun c64_7 => absurd c64_7 (by omega))
              refine a_iload_n (j := 2) dX9_set_71 rfl rfl ?_
              refine a_iconst dX9_set_72 ⟨by decide, by decide⟩ ?_
              refine a_icmp_ne (tgt := 80) dX9_set_73 (by decide) (fun c73_8 => ?_) (fun c73_8 => absurd c73_8 (by omega))
              refine a_iconst dX9_set_80 ⟨by decide, by decide⟩ ?_
              refine a_iload_n (j := 3) dX9_set_81 rfl rfl ?_
              refine b_callV (d' := d - 1) (mc' := 0) (ms' := 0) (mc1 := 0) (ms1 := 0) (st := []) (b := 123) [vI t, vI 4, vI v] dX9_set_82 mwX9_becomes lkX9_172 (by decide) rfl rc_X9 rfl (Nat.le_of_ble_eq_true rfl) (by omega) rfl rfl (c_X9_becomes (v1 := v2) (by omega)  e2 (show 0 ≤ t ∧ t ≤ 11 ∧ 0 ≤ 4 ∧ 4 ≤ 10 by omega) ?_)
              show Aj γ mX9_set d 0 0 Post 85 [(0, vA 123), (1, vI t), (2, vI q), (3, vI v)] [vI v2] (mk (up2 (up2 h 124 (Int.toNat ((15 + (11 * t)) + 4)) v) 123 4 0) τ)
              exact a_iret dX9_set_85 rfl (k1 t2_1 t11_2 c20_3 c29_4 c40_5 t52_6 c64_7 c73_8)
            · have t52_6 : ¬ (0 ≤ v ∧ v ≤ 600) := t52_6
              show Aj γ mX9_set d 0 0 Post 55 [(0, vA 123), (1, vI t), (2, vI q), (3, vI v)] [vI 0] (mk h τ)
              refine a_if_ne (tgt := 61) dX9_set_55 (by decide) (fun c => absurd c (by decide)) (fun _ => ?_)
              refine a_ldc (z := (-1000000001)) dX9_set_58 kwX9_146 ⟨by decide, by decide, by decide⟩ ?_
              exact a_iret dX9_set_60 rfl (k2 t2_1 t11_2 c20_3 c29_4 c40_5 t52_6)
          · refine a_sipush dX9_set_43 ⟨by decide, by decide, by decide⟩ ?_
            refine a_goto (tgt := 52) dX9_set_46 (by decide) ?_
            refine a_callS (d' := d - 1) (mc' := 0) (ms' := 0) (mc1 := 0) (ms1 := 0) (st := []) [vI v, vI 0, vI 1439] dX9_set_52 mwX9_in lkX9_103 rfl (Nat.le_of_ble_eq_true rfl) (by omega) rfl rfl (c_X9_in  (by omega)    (fun t52_9 => ?_) (fun t52_9 => ?_))
            · have t52_9 : 0 ≤ v ∧ v ≤ 1439 := t52_9
              show Aj γ mX9_set d 0 0 Post 55 [(0, vA 123), (1, vI t), (2, vI q), (3, vI v)] [vI 1] (mk h τ)
              refine a_if_ne (tgt := 61) dX9_set_55 (by decide) (fun _ => ?_) (fun c => absurd c (by decide))
              refine a_aload_n (j := 0) dX9_set_61 rfl rfl (Nat.le_of_ble_eq_true rfl) ?_
              refine a_iload_n (j := 1) dX9_set_62 rfl rfl ?_
              refine a_iload_n (j := 2) dX9_set_63 rfl rfl ?_
              refine a_if_ne (tgt := 71) dX9_set_64 (by decide) (fun c64_10 => ?_) (fun c64_10 => absurd c64_10 (by omega))
              refine a_iload_n (j := 2) dX9_set_71 rfl rfl ?_
              refine a_iconst dX9_set_72 ⟨by decide, by decide⟩ ?_
              refine a_icmp_ne (tgt := 80) dX9_set_73 (by decide) (fun c73_11 => absurd c73_11 (by omega)) (fun c73_11 => ?_)
              refine a_iconst dX9_set_76 ⟨by decide, by decide⟩ ?_
              refine a_goto (tgt := 81) dX9_set_77 (by decide) ?_
              refine a_iload_n (j := 3) dX9_set_81 rfl rfl ?_
              refine b_callV (d' := d - 1) (mc' := 0) (ms' := 0) (mc1 := 0) (ms1 := 0) (st := []) (b := 123) [vI t, vI 3, vI v] dX9_set_82 mwX9_becomes lkX9_172 (by decide) rfl rc_X9 rfl (Nat.le_of_ble_eq_true rfl) (by omega) rfl rfl (c_X9_becomes (v1 := v3) (by omega)  e3 (show 0 ≤ t ∧ t ≤ 11 ∧ 0 ≤ 3 ∧ 3 ≤ 10 by omega) ?_)
              show Aj γ mX9_set d 0 0 Post 85 [(0, vA 123), (1, vI t), (2, vI q), (3, vI v)] [vI v3] (mk (up2 (up2 h 124 (Int.toNat ((15 + (11 * t)) + 3)) v) 123 4 0) τ)
              exact a_iret dX9_set_85 rfl (k3 t2_1 t11_2 c20_3 c29_4 c40_5 t52_9 c64_10 c73_11)
            · have t52_9 : ¬ (0 ≤ v ∧ v ≤ 1439) := t52_9
              show Aj γ mX9_set d 0 0 Post 55 [(0, vA 123), (1, vI t), (2, vI q), (3, vI v)] [vI 0] (mk h τ)
              refine a_if_ne (tgt := 61) dX9_set_55 (by decide) (fun c => absurd c (by decide)) (fun _ => ?_)
              refine a_ldc (z := (-1000000001)) dX9_set_58 kwX9_146 ⟨by decide, by decide, by decide⟩ ?_
              exact a_iret dX9_set_60 rfl (k4 t2_1 t11_2 c20_3 c29_4 c40_5 t52_9)
        · refine a_sipush dX9_set_32 ⟨by decide, by decide, by decide⟩ ?_
          refine a_goto (tgt := 52) dX9_set_35 (by decide) ?_
          refine a_callS (d' := d - 1) (mc' := 0) (ms' := 0) (mc1 := 0) (ms1 := 0) (st := []) [vI v, vI 0, vI 999] dX9_set_52 mwX9_in lkX9_103 rfl (Nat.le_of_ble_eq_true rfl) (by omega) rfl rfl (c_X9_in  (by omega)    (fun t52_12 => ?_) (fun t52_12 => ?_))
          · have t52_12 : 0 ≤ v ∧ v ≤ 999 := t52_12
            show Aj γ mX9_set d 0 0 Post 55 [(0, vA 123), (1, vI t), (2, vI q), (3, vI v)] [vI 1] (mk h τ)
            refine a_if_ne (tgt := 61) dX9_set_55 (by decide) (fun _ => ?_) (fun c => absurd c (by decide))
            refine a_aload_n (j := 0) dX9_set_61 rfl rfl (Nat.le_of_ble_eq_true rfl) ?_
            refine a_iload_n (j := 1) dX9_set_62 rfl rfl ?_
            refine a_iload_n (j := 2) dX9_set_63 rfl rfl ?_
            refine a_if_ne (tgt := 71) dX9_set_64 (by decide) (fun c64_13 => absurd c64_13 (by omega)) (fun c64_13 => ?_)
            refine a_iconst dX9_set_67 ⟨by decide, by decide⟩ ?_
            refine a_goto (tgt := 81) dX9_set_68 (by decide) ?_
            refine a_iload_n (j := 3) dX9_set_81 rfl rfl ?_
            refine b_callV (d' := d - 1) (mc' := 0) (ms' := 0) (mc1 := 0) (ms1 := 0) (st := []) (b := 123) [vI t, vI 5, vI v] dX9_set_82 mwX9_becomes lkX9_172 (by decide) rfl rc_X9 rfl (Nat.le_of_ble_eq_true rfl) (by omega) rfl rfl (c_X9_becomes (v1 := v4) (by omega)  e4 (show 0 ≤ t ∧ t ≤ 11 ∧ 0 ≤ 5 ∧ 5 ≤ 10 by omega) ?_)
            show Aj γ mX9_set d 0 0 Post 85 [(0, vA 123), (1, vI t), (2, vI q), (3, vI v)] [vI v4] (mk (up2 (up2 h 124 (Int.toNat ((15 + (11 * t)) + 5)) v) 123 4 0) τ)
            exact a_iret dX9_set_85 rfl (k5 t2_1 t11_2 c20_3 c29_4 t52_12 c64_13)
          · have t52_12 : ¬ (0 ≤ v ∧ v ≤ 999) := t52_12
            show Aj γ mX9_set d 0 0 Post 55 [(0, vA 123), (1, vI t), (2, vI q), (3, vI v)] [vI 0] (mk h τ)
            refine a_if_ne (tgt := 61) dX9_set_55 (by decide) (fun c => absurd c (by decide)) (fun _ => ?_)
            refine a_ldc (z := (-1000000001)) dX9_set_58 kwX9_146 ⟨by decide, by decide, by decide⟩ ?_
            exact a_iret dX9_set_60 rfl (k6 t2_1 t11_2 c20_3 c29_4 t52_12)
      · refine a_iconst dX9_set_23 ⟨by decide, by decide⟩ ?_
        refine a_goto (tgt := 28) dX9_set_24 (by decide) ?_
        refine a_iload_n (j := 2) dX9_set_28 rfl rfl ?_
        refine a_if_ne (tgt := 38) dX9_set_29 (by decide) (fun c29_14 => ?_) (fun c29_14 => absurd c29_14 (by omega))
        refine a_iload_n (j := 2) dX9_set_38 rfl rfl ?_
        refine a_iconst dX9_set_39 ⟨by decide, by decide⟩ ?_
        refine a_icmp_ne (tgt := 49) dX9_set_40 (by decide) (fun c40_15 => ?_) (fun c40_15 => absurd c40_15 (by omega))
        refine a_sipush dX9_set_49 ⟨by decide, by decide, by decide⟩ ?_
        refine a_callS (d' := d - 1) (mc' := 0) (ms' := 0) (mc1 := 0) (ms1 := 0) (st := []) [vI v, vI 1, vI 600] dX9_set_52 mwX9_in lkX9_103 rfl (Nat.le_of_ble_eq_true rfl) (by omega) rfl rfl (c_X9_in  (by omega)    (fun t52_16 => ?_) (fun t52_16 => ?_))
        · have t52_16 : 1 ≤ v ∧ v ≤ 600 := t52_16
          show Aj γ mX9_set d 0 0 Post 55 [(0, vA 123), (1, vI t), (2, vI q), (3, vI v)] [vI 1] (mk h τ)
          refine a_if_ne (tgt := 61) dX9_set_55 (by decide) (fun _ => ?_) (fun c => absurd c (by decide))
          refine a_aload_n (j := 0) dX9_set_61 rfl rfl (Nat.le_of_ble_eq_true rfl) ?_
          refine a_iload_n (j := 1) dX9_set_62 rfl rfl ?_
          refine a_iload_n (j := 2) dX9_set_63 rfl rfl ?_
          refine a_if_ne (tgt := 71) dX9_set_64 (by decide) (fun c64_17 => ?_) (fun c64_17 => absurd c64_17 (by omega))
          refine a_iload_n (j := 2) dX9_set_71 rfl rfl ?_
          refine a_iconst dX9_set_72 ⟨by decide, by decide⟩ ?_
          refine a_icmp_ne (tgt := 80) dX9_set_73 (by decide) (fun c73_18 => ?_) (fun c73_18 => absurd c73_18 (by omega))
          refine a_iconst dX9_set_80 ⟨by decide, by decide⟩ ?_
          refine a_iload_n (j := 3) dX9_set_81 rfl rfl ?_
          refine b_callV (d' := d - 1) (mc' := 0) (ms' := 0) (mc1 := 0) (ms1 := 0) (st := []) (b := 123) [vI t, vI 4, vI v] dX9_set_82 mwX9_becomes lkX9_172 (by decide) rfl rc_X9 rfl (Nat.le_of_ble_eq_true rfl) (by omega) rfl rfl (c_X9_becomes (v1 := v2) (by omega)  e2 (show 0 ≤ t ∧ t ≤ 11 ∧ 0 ≤ 4 ∧ 4 ≤ 10 by omega) ?_)
          show Aj γ mX9_set d 0 0 Post 85 [(0, vA 123), (1, vI t), (2, vI q), (3, vI v)] [vI v2] (mk (up2 (up2 h 124 (Int.toNat ((15 + (11 * t)) + 4)) v) 123 4 0) τ)
          exact a_iret dX9_set_85 rfl (k7 t2_1 t11_2 c20_3 c29_14 c40_15 t52_16 c64_17 c73_18)
        · have t52_16 : ¬ (1 ≤ v ∧ v ≤ 600) := t52_16
          show Aj γ mX9_set d 0 0 Post 55 [(0, vA 123), (1, vI t), (2, vI q), (3, vI v)] [vI 0] (mk h τ)
          refine a_if_ne (tgt := 61) dX9_set_55 (by decide) (fun c => absurd c (by decide)) (fun _ => ?_)
          refine a_ldc (z := (-1000000001)) dX9_set_58 kwX9_146 ⟨by decide, by decide, by decide⟩ ?_
          exact a_iret dX9_set_60 rfl (k8 t2_1 t11_2 c20_3 c29_14 c40_15 t52_16)
    · have t11_2 : ¬ (0 ≤ q ∧ q ≤ 2) := t11_2
      show Aj γ mX9_set d 0 0 Post 14 [(0, vA 123), (1, vI t), (2, vI q), (3, vI v)] [vI 0] (mk h τ)
      refine a_if_eq (tgt := 58) dX9_set_14 (by decide) (fun _ => ?_) (fun c => absurd c (by decide))
      refine a_ldc (z := (-1000000001)) dX9_set_58 kwX9_146 ⟨by decide, by decide, by decide⟩ ?_
      exact a_iret dX9_set_60 rfl (k9 t2_1 t11_2)
  · have t2_1 : ¬ (0 ≤ t ∧ t < v1) := t2_1
    show Aj γ mX9_set d 0 0 Post 5 [(0, vA 123), (1, vI t), (2, vI q), (3, vI v)] [vI 0] (mk h τ)
    refine a_if_eq (tgt := 58) dX9_set_5 (by decide) (fun _ => ?_) (fun c => absurd c (by decide))
    refine a_ldc (z := (-1000000001)) dX9_set_58 kwX9_146 ⟨by decide, by decide, by decide⟩ ?_
    exact a_iret dX9_set_60 rfl (k10 t2_1)
set_option maxHeartbeats 8000000 in
theorem c_X9_day {γ : GT} {d : Nat} {v : Int} {h : Nat → Nat → Int} {τ : List AC} {Post : Option AV → List AC → Prop} (hd : 2 ≤ d) {v1 : Int} (e1 : h 124 1 = v1) (k1 : (0 ≤ v ∧ v ≤ 999) → Post (some (vI v1)) (mk (up2 (up2 h 124 1 v) 123 4 0) τ)) (k2 : (¬ (0 ≤ v ∧ v ≤ 999)) → Post (some (vI (-1000000001))) (mk h τ)) : Cj γ mX9_day d 0 0 [vA 123, vI v] (mk h τ) Post := by
  refine c_of (by decide) (Nat.le_of_ble_eq_true rfl) ?_
  show Aj γ mX9_day d 0 0 Post 0 [(0, vA 123), (1, vI v)] [] (mk h τ)
  refine a_iload_n (j := 1) dX9_day_0 rfl rfl ?_
  refine a_iconst dX9_day_1 ⟨by decide, by decide⟩ ?_
  refine a_sipush dX9_day_2 ⟨by decide, by decide, by decide⟩ ?_
  refine a_callS (d' := d - 1) (mc' := 0) (ms' := 0) (mc1 := 0) (ms1 := 0) (st := []) [vI v, vI 0, vI 999] dX9_day_5 mwX9_in lkX9_103 rfl (Nat.le_of_ble_eq_true rfl) (by omega) rfl rfl (c_X9_in  (by omega)    (fun t5_1 => ?_) (fun t5_1 => ?_))
  · have t5_1 : 0 ≤ v ∧ v ≤ 999 := t5_1
    show Aj γ mX9_day d 0 0 Post 8 [(0, vA 123), (1, vI v)] [vI 1] (mk h τ)
    refine a_if_ne (tgt := 14) dX9_day_8 (by decide) (fun _ => ?_) (fun c => absurd c (by decide))
    refine a_aload_n (j := 0) dX9_day_14 rfl rfl (Nat.le_of_ble_eq_true rfl) ?_
    refine b_getp (a := 123) (p := 124) dX9_day_15 fwX9_9 (by decide) rfl (by decide) rfl rfl ?_
    refine a_iconst dX9_day_18 ⟨by decide, by decide⟩ ?_
    refine b_iaload (a := 124) (z := v1) 1 dX9_day_19 (by decide) rfl rfl (by decide) rfl e1 (fun r19_2 => ?_)
    refine a_istore_n (lv' := [(2, vI v1), (0, vA 123), (1, vI v)]) dX9_day_20 rfl (by decide) rfl ?_
    refine a_aload_n (j := 1) dX9_day_21 rfl rfl (Nat.le_of_ble_eq_true rfl) ?_
    refine b_getp (a := 123) (p := 124) dX9_day_22 fwX9_9 (by decide) rfl (by decide) rfl rfl ?_
    refine a_iconst dX9_day_25 ⟨by decide, by decide⟩ ?_
    refine a_iload_n (j := 2) dX9_day_26 rfl rfl ?_
    refine b_iastore (a := 124) 1 dX9_day_27 (by decide) rfl rfl (by decide) rfl ?_
    refine a_aload_n (j := 1) dX9_day_28 rfl rfl (Nat.le_of_ble_eq_true rfl) ?_
    refine a_iconst dX9_day_29 ⟨by decide, by decide⟩ ?_
    refine b_put (a := 123) (v := vI 0) dX9_day_30 pwX9_111 (fun h => nomatch h) (by decide) rfl (by decide) rfl rfl (fit_bool (by first | exact Or.inl rfl | exact Or.inr rfl | omega)) ?_
    show Aj γ mX9_day d 0 0 Post 33 [(2, vI v1), (0, vA 123), (1, vI v)] [] (mk (up2 (up2 h 124 1 v) 123 4 0) τ)
    refine a_iload_n (j := 0) dX9_day_33 rfl rfl ?_
    exact a_iret dX9_day_34 rfl (k1 t5_1)
  · have t5_1 : ¬ (0 ≤ v ∧ v ≤ 999) := t5_1
    show Aj γ mX9_day d 0 0 Post 8 [(0, vA 123), (1, vI v)] [vI 0] (mk h τ)
    refine a_if_ne (tgt := 14) dX9_day_8 (by decide) (fun c => absurd c (by decide)) (fun _ => ?_)
    refine a_ldc (z := (-1000000001)) dX9_day_11 kwX9_146 ⟨by decide, by decide, by decide⟩ ?_
    exact a_iret dX9_day_13 rfl (k2 t5_1)
set_option maxHeartbeats 8000000 in
theorem c_X9_add {γ : GT} {d : Nat} {t : Int} {h : Nat → Nat → Int} {τ : List AC} {Post : Option AV → List AC → Prop} (hd : 2 ≤ d) {v1 : Int} (e1 : h 124 5 = v1) {v2 : Int} (e2 : h 124 7 = v2) (hN : 0 ≤ v1 ∧ v1 ≤ 12) (hP : 0 ≤ v2 ∧ v2 ≤ 6) (k1 : (0 ≤ t ∧ t < v1) → (¬ v2 = 6) → Post (some (vI (v2 + 1))) (mk (up2 (up2 h 124 (Int.toNat (147 + v2)) t) 124 7 (v2 + 1)) τ)) (k2 : (0 ≤ t ∧ t < v1) → (v2 = 6) → Post (some (vI (-1000000003))) (mk h τ)) (k3 : (¬ (0 ≤ t ∧ t < v1)) → Post (some (vI (-1000000001))) (mk h τ)) : Cj γ mX9_add d 0 0 [vA 123, vI t] (mk h τ) Post := by
  refine c_of (by decide) (Nat.le_of_ble_eq_true rfl) ?_
  show Aj γ mX9_add d 0 0 Post 0 [(0, vA 123), (1, vI t)] [] (mk h τ)
  refine a_aload_n (j := 0) dX9_add_0 rfl rfl (Nat.le_of_ble_eq_true rfl) ?_
  refine a_iload_n (j := 1) dX9_add_1 rfl rfl ?_
  refine b_callV (d' := d - 1) (mc' := 0) (ms' := 0) (mc1 := 0) (ms1 := 0) (st := []) (b := 123) [vI t] dX9_add_2 mwX9_isTrain lkX9_152 (by decide) rfl rc_X9 rfl (Nat.le_of_ble_eq_true rfl) (by omega) rfl rfl (c_X9_isTrain (v1 := v1) (by omega)  e1 (show 0 ≤ v1 ∧ v1 ≤ 12 by omega) (fun t2_1 => ?_) (fun t2_1 => ?_))
  · have t2_1 : 0 ≤ t ∧ t < v1 := t2_1
    show Aj γ mX9_add d 0 0 Post 5 [(0, vA 123), (1, vI t)] [vI 1] (mk h τ)
    refine a_if_ne (tgt := 11) dX9_add_5 (by decide) (fun _ => ?_) (fun c => absurd c (by decide))
    refine a_aload_n (j := 0) dX9_add_11 rfl rfl (Nat.le_of_ble_eq_true rfl) ?_
    refine b_getp (a := 123) (p := 124) dX9_add_12 fwX9_9 (by decide) rfl (by decide) rfl rfl ?_
    refine a_bipush dX9_add_15 ⟨by decide, by decide, by decide⟩ ?_
    refine b_iaload (a := 124) (z := v2) 7 dX9_add_17 (by decide) rfl rfl (by decide) rfl e2 (fun r17_2 => ?_)
    refine a_bipush dX9_add_18 ⟨by decide, by decide, by decide⟩ ?_
    refine a_icmp_ne (tgt := 26) dX9_add_20 (by decide) (fun c20_3 => ?_) (fun c20_3 => ?_)
    · refine a_aload_n (j := 0) dX9_add_26 rfl rfl (Nat.le_of_ble_eq_true rfl) ?_
      refine b_getp (a := 123) (p := 124) dX9_add_27 fwX9_9 (by decide) rfl (by decide) rfl rfl ?_
      refine a_sipush dX9_add_30 ⟨by decide, by decide, by decide⟩ ?_
      refine a_aload_n (j := 0) dX9_add_33 rfl rfl (Nat.le_of_ble_eq_true rfl) ?_
      refine b_getp (a := 123) (p := 124) dX9_add_34 fwX9_9 (by decide) rfl (by decide) rfl rfl ?_
      refine a_bipush dX9_add_37 ⟨by decide, by decide, by decide⟩ ?_
      refine b_iaload (a := 124) (z := v2) 7 dX9_add_39 (by decide) rfl rfl (by decide) rfl e2 (fun r39_4 => ?_)
      refine a_iadd (z := (147 + v2)) dX9_add_40 (w_ok (by omega) (by omega)) ?_
      refine a_iload_n (j := 1) dX9_add_41 rfl rfl ?_
      refine b_iastore (a := 124) (Int.toNat (147 + v2)) dX9_add_42 (by decide) rfl (by omega) (by omega) (sp_nil rfl _) ?_
      refine a_aload_n (j := 0) dX9_add_43 rfl rfl (Nat.le_of_ble_eq_true rfl) ?_
      refine b_getp (a := 123) (p := 124) dX9_add_44 fwX9_9 (by decide) rfl (by decide) rfl rfl ?_
      refine a_bipush dX9_add_47 ⟨by decide, by decide, by decide⟩ ?_
      refine a_dup2 dX9_add_49 (fun h => nomatch h) (fun h => nomatch h) ?_
      refine b_iaload (a := 124) (z := v2) 7 dX9_add_50 (by decide) rfl rfl (by decide) rfl ((up2_ne (by omega)).trans e2) (fun r50_5 => ?_)
      refine a_iconst dX9_add_51 ⟨by decide, by decide⟩ ?_
      refine a_iadd (z := (v2 + 1)) dX9_add_52 (w_ok (by omega) (by omega)) ?_
      refine b_iastore (a := 124) 7 dX9_add_53 (by decide) rfl rfl (by decide) rfl ?_
      refine a_aload_n (j := 0) dX9_add_54 rfl rfl (Nat.le_of_ble_eq_true rfl) ?_
      refine b_getp (a := 123) (p := 124) dX9_add_55 fwX9_9 (by decide) rfl (by decide) rfl rfl ?_
      refine a_bipush dX9_add_58 ⟨by decide, by decide, by decide⟩ ?_
      refine b_iaload (a := 124) (z := (v2 + 1)) 7 dX9_add_60 (by decide) rfl rfl (by decide) rfl up2_at (fun r60_6 => ?_)
      exact a_iret dX9_add_61 rfl (k1 t2_1 c20_3)
    · refine a_ldc (z := (-1000000003)) dX9_add_23 kwX9_147 ⟨by decide, by decide, by decide⟩ ?_
      exact a_iret dX9_add_25 rfl (k2 t2_1 c20_3)
  · have t2_1 : ¬ (0 ≤ t ∧ t < v1) := t2_1
    show Aj γ mX9_add d 0 0 Post 5 [(0, vA 123), (1, vI t)] [vI 0] (mk h τ)
    refine a_if_ne (tgt := 11) dX9_add_5 (by decide) (fun c => absurd c (by decide)) (fun _ => ?_)
    refine a_ldc (z := (-1000000001)) dX9_add_8 kwX9_146 ⟨by decide, by decide, by decide⟩ ?_
    exact a_iret dX9_add_10 rfl (k3 t2_1)
set_option maxHeartbeats 8000000 in
theorem c_X9_clear {γ : GT} {d : Nat}  {h : Nat → Nat → Int} {τ : List AC} {Post : Option AV → List AC → Prop} (hd : 2 ≤ d) {v1 : Int} (e1 : h 124 7 = v1) (k1 : Post (some (vI v1)) (mk (up2 h 124 7 0) τ)) : Cj γ mX9_clear d 0 0 [vA 123] (mk h τ) Post := by
  refine c_of (by decide) (Nat.le_of_ble_eq_true rfl) ?_
  show Aj γ mX9_clear d 0 0 Post 0 [(0, vA 123)] [] (mk h τ)
  refine a_aload_n (j := 0) dX9_clear_0 rfl rfl (Nat.le_of_ble_eq_true rfl) ?_
  refine b_getp (a := 123) (p := 124) dX9_clear_1 fwX9_9 (by decide) rfl (by decide) rfl rfl ?_
  refine a_bipush dX9_clear_4 ⟨by decide, by decide, by decide⟩ ?_
  refine b_iaload (a := 124) (z := v1) 7 dX9_clear_6 (by decide) rfl rfl (by decide) rfl e1 (fun r6_1 => ?_)
  refine a_istore_n (lv' := [(1, vI v1), (0, vA 123)]) dX9_clear_7 rfl (by decide) rfl ?_
  refine a_aload_n (j := 1) dX9_clear_8 rfl rfl (Nat.le_of_ble_eq_true rfl) ?_
  refine b_getp (a := 123) (p := 124) dX9_clear_9 fwX9_9 (by decide) rfl (by decide) rfl rfl ?_
  refine a_bipush dX9_clear_12 ⟨by decide, by decide, by decide⟩ ?_
  refine a_iconst dX9_clear_14 ⟨by decide, by decide⟩ ?_
  refine b_iastore (a := 124) 7 dX9_clear_15 (by decide) rfl rfl (by decide) rfl ?_
  refine a_iload_n (j := 0) dX9_clear_16 rfl rfl ?_
  exact a_iret dX9_clear_17 rfl k1
set_option maxHeartbeats 8000000 in
theorem c_X9_aim {γ : GT} {d : Nat} {q v : Int} {h : Nat → Nat → Int} {τ : List AC} {Post : Option AV → List AC → Prop} (hd : 2 ≤ d) {v1 : Int} (e1 : h 124 4 = v1) {v2 : Int} (e2 : h 124 (Int.toNat (2 + q)) = v2) (hS : 0 ≤ v1 ∧ v1 ≤ 6) (k1 : (0 ≤ q ∧ q ≤ 1) → (¬ q = 0) → (¬ q = 1) → Post (some (vI v2)) (mk (up2 (up2 h 124 (Int.toNat (2 + q)) v) 123 4 0) τ)) (k2 : (0 ≤ q ∧ q ≤ 1) → (¬ q = 0) → (q = 1) → (0 ≤ v ∧ v ≤ 2999) → Post (some (vI v2)) (mk (up2 (up2 h 124 (Int.toNat (2 + q)) v) 123 4 0) τ)) (k3 : (0 ≤ q ∧ q ≤ 1) → (¬ q = 0) → (q = 1) → (¬ (0 ≤ v ∧ v ≤ 2999)) → Post (some (vI (-1000000001))) (mk h τ)) (k4 : (0 ≤ q ∧ q ≤ 1) → (q = 0) → (0 ≤ v ∧ v < v1) → (¬ q = 1) → Post (some (vI v2)) (mk (up2 (up2 h 124 (Int.toNat (2 + q)) v) 123 4 0) τ)) (k5 : (0 ≤ q ∧ q ≤ 1) → (q = 0) → (¬ (0 ≤ v ∧ v < v1)) → Post (some (vI (-1000000001))) (mk h τ)) (k6 : (¬ (0 ≤ q ∧ q ≤ 1)) → Post (some (vI (-1000000001))) (mk h τ)) : Cj γ mX9_aim d 0 0 [vA 123, vI q, vI v] (mk h τ) Post := by
  refine c_of (by decide) (Nat.le_of_ble_eq_true rfl) ?_
  show Aj γ mX9_aim d 0 0 Post 0 [(0, vA 123), (1, vI q), (2, vI v)] [] (mk h τ)
  refine a_iload_n (j := 1) dX9_aim_0 rfl rfl ?_
  refine a_iconst dX9_aim_1 ⟨by decide, by decide⟩ ?_
  refine a_iconst dX9_aim_2 ⟨by decide, by decide⟩ ?_
  refine a_callS (d' := d - 1) (mc' := 0) (ms' := 0) (mc1 := 0) (ms1 := 0) (st := []) [vI q, vI 0, vI 1] dX9_aim_3 mwX9_in lkX9_103 rfl (Nat.le_of_ble_eq_true rfl) (by omega) rfl rfl (c_X9_in  (by omega)    (fun t3_1 => ?_) (fun t3_1 => ?_))
  · have t3_1 : 0 ≤ q ∧ q ≤ 1 := t3_1
    show Aj γ mX9_aim d 0 0 Post 6 [(0, vA 123), (1, vI q), (2, vI v)] [vI 1] (mk h τ)
    refine a_if_eq (tgt := 37) dX9_aim_6 (by decide) (fun c => absurd c (by decide)) (fun _ => ?_)
    refine a_iload_n (j := 1) dX9_aim_9 rfl rfl ?_
    refine a_if_ne (tgt := 21) dX9_aim_10 (by decide) (fun c10_2 => ?_) (fun c10_2 => ?_)
    · refine a_iload_n (j := 1) dX9_aim_21 rfl rfl ?_
      refine a_iconst dX9_aim_22 ⟨by decide, by decide⟩ ?_
      refine a_icmp_ne (tgt := 40) dX9_aim_23 (by decide) (fun c23_3 => ?_) (fun c23_3 => ?_)
      · refine a_aload_n (j := 0) dX9_aim_40 rfl rfl (Nat.le_of_ble_eq_true rfl) ?_
        refine b_getp (a := 123) (p := 124) dX9_aim_41 fwX9_9 (by decide) rfl (by decide) rfl rfl ?_
        refine a_iconst dX9_aim_44 ⟨by decide, by decide⟩ ?_
        refine a_iload_n (j := 1) dX9_aim_45 rfl rfl ?_
        refine a_iadd (z := (2 + q)) dX9_aim_46 (w_ok (by omega) (by omega)) ?_
        refine b_iaload (a := 124) (z := v2) (Int.toNat (2 + q)) dX9_aim_47 (by decide) rfl (by omega) (by omega) (sp_nil rfl _) e2 (fun r47_4 => ?_)
        refine a_istore_n (lv' := [(3, vI v2), (0, vA 123), (1, vI q), (2, vI v)]) dX9_aim_48 rfl (by decide) rfl ?_
        refine a_aload_n (j := 1) dX9_aim_49 rfl rfl (Nat.le_of_ble_eq_true rfl) ?_
        refine b_getp (a := 123) (p := 124) dX9_aim_50 fwX9_9 (by decide) rfl (by decide) rfl rfl ?_
        refine a_iconst dX9_aim_53 ⟨by decide, by decide⟩ ?_
        refine a_iload_n (j := 2) dX9_aim_54 rfl rfl ?_
        refine a_iadd (z := (2 + q)) dX9_aim_55 (w_ok (by omega) (by omega)) ?_
        refine a_iload_n (j := 3) dX9_aim_56 rfl rfl ?_
        refine b_iastore (a := 124) (Int.toNat (2 + q)) dX9_aim_57 (by decide) rfl (by omega) (by omega) (sp_nil rfl _) ?_
        refine a_aload_n (j := 1) dX9_aim_58 rfl rfl (Nat.le_of_ble_eq_true rfl) ?_
        refine a_iconst dX9_aim_59 ⟨by decide, by decide⟩ ?_
        refine b_put (a := 123) (v := vI 0) dX9_aim_60 pwX9_111 (fun h => nomatch h) (by decide) rfl (by decide) rfl rfl (fit_bool (by first | exact Or.inl rfl | exact Or.inr rfl | omega)) ?_
        show Aj γ mX9_aim d 0 0 Post 63 [(3, vI v2), (0, vA 123), (1, vI q), (2, vI v)] [] (mk (up2 (up2 h 124 (Int.toNat (2 + q)) v) 123 4 0) τ)
        refine a_iload_n (j := 0) dX9_aim_63 rfl rfl ?_
        exact a_iret dX9_aim_64 rfl (k1 t3_1 c10_2 c23_3)
      · refine a_iload_n (j := 2) dX9_aim_26 rfl rfl ?_
        refine a_iconst dX9_aim_27 ⟨by decide, by decide⟩ ?_
        refine a_sipush dX9_aim_28 ⟨by decide, by decide, by decide⟩ ?_
        refine a_callS (d' := d - 1) (mc' := 0) (ms' := 0) (mc1 := 0) (ms1 := 0) (st := []) [vI v, vI 0, vI 2999] dX9_aim_31 mwX9_in lkX9_103 rfl (Nat.le_of_ble_eq_true rfl) (by omega) rfl rfl (c_X9_in  (by omega)    (fun t31_5 => ?_) (fun t31_5 => ?_))
        · have t31_5 : 0 ≤ v ∧ v ≤ 2999 := t31_5
          show Aj γ mX9_aim d 0 0 Post 34 [(0, vA 123), (1, vI q), (2, vI v)] [vI 1] (mk h τ)
          refine a_if_ne (tgt := 40) dX9_aim_34 (by decide) (fun _ => ?_) (fun c => absurd c (by decide))
          refine a_aload_n (j := 0) dX9_aim_40 rfl rfl (Nat.le_of_ble_eq_true rfl) ?_
          refine b_getp (a := 123) (p := 124) dX9_aim_41 fwX9_9 (by decide) rfl (by decide) rfl rfl ?_
          refine a_iconst dX9_aim_44 ⟨by decide, by decide⟩ ?_
          refine a_iload_n (j := 1) dX9_aim_45 rfl rfl ?_
          refine a_iadd (z := (2 + q)) dX9_aim_46 (w_ok (by omega) (by omega)) ?_
          refine b_iaload (a := 124) (z := v2) (Int.toNat (2 + q)) dX9_aim_47 (by decide) rfl (by omega) (by omega) (sp_nil rfl _) e2 (fun r47_6 => ?_)
          refine a_istore_n (lv' := [(3, vI v2), (0, vA 123), (1, vI q), (2, vI v)]) dX9_aim_48 rfl (by decide) rfl ?_
          refine a_aload_n (j := 1) dX9_aim_49 rfl rfl (Nat.le_of_ble_eq_true rfl) ?_
          refine b_getp (a := 123) (p := 124) dX9_aim_50 fwX9_9 (by decide) rfl (by decide) rfl rfl ?_
          refine a_iconst dX9_aim_53 ⟨by decide, by decide⟩ ?_
          refine a_iload_n (j := 2) dX9_aim_54 rfl rfl ?_
          refine a_iadd (z := (2 + q)) dX9_aim_55 (w_ok (by omega) (by omega)) ?_
          refine a_iload_n (j := 3) dX9_aim_56 rfl rfl ?_
          refine b_iastore (a := 124) (Int.toNat (2 + q)) dX9_aim_57 (by decide) rfl (by omega) (by omega) (sp_nil rfl _) ?_
          refine a_aload_n (j := 1) dX9_aim_58 rfl rfl (Nat.le_of_ble_eq_true rfl) ?_
          refine a_iconst dX9_aim_59 ⟨by decide, by decide⟩ ?_
          refine b_put (a := 123) (v := vI 0) dX9_aim_60 pwX9_111 (fun h => nomatch h) (by decide) rfl (by decide) rfl rfl (fit_bool (by first | exact Or.inl rfl | exact Or.inr rfl | omega)) ?_
          show Aj γ mX9_aim d 0 0 Post 63 [(3, vI v2), (0, vA 123), (1, vI q), (2, vI v)] [] (mk (up2 (up2 h 124 (Int.toNat (2 + q)) v) 123 4 0) τ)
          refine a_iload_n (j := 0) dX9_aim_63 rfl rfl ?_
          exact a_iret dX9_aim_64 rfl (k2 t3_1 c10_2 c23_3 t31_5)
        · have t31_5 : ¬ (0 ≤ v ∧ v ≤ 2999) := t31_5
          show Aj γ mX9_aim d 0 0 Post 34 [(0, vA 123), (1, vI q), (2, vI v)] [vI 0] (mk h τ)
          refine a_if_ne (tgt := 40) dX9_aim_34 (by decide) (fun c => absurd c (by decide)) (fun _ => ?_)
          refine a_ldc (z := (-1000000001)) dX9_aim_37 kwX9_146 ⟨by decide, by decide, by decide⟩ ?_
          exact a_iret dX9_aim_39 rfl (k3 t3_1 c10_2 c23_3 t31_5)
    · refine a_aload_n (j := 0) dX9_aim_13 rfl rfl (Nat.le_of_ble_eq_true rfl) ?_
      refine a_iload_n (j := 2) dX9_aim_14 rfl rfl ?_
      refine b_callV (d' := d - 1) (mc' := 0) (ms' := 0) (mc1 := 0) (ms1 := 0) (st := []) (b := 123) [vI v] dX9_aim_15 mwX9_isStop lkX9_148 (by decide) rfl rc_X9 rfl (Nat.le_of_ble_eq_true rfl) (by omega) rfl rfl (c_X9_isStop (v1 := v1) (by omega)  e1 (show 0 ≤ v1 ∧ v1 ≤ 6 by omega) (fun t15_7 => ?_) (fun t15_7 => ?_))
      · have t15_7 : 0 ≤ v ∧ v < v1 := t15_7
        show Aj γ mX9_aim d 0 0 Post 18 [(0, vA 123), (1, vI q), (2, vI v)] [vI 1] (mk h τ)
        refine a_if_eq (tgt := 37) dX9_aim_18 (by decide) (fun c => absurd c (by decide)) (fun _ => ?_)
        refine a_iload_n (j := 1) dX9_aim_21 rfl rfl ?_
        refine a_iconst dX9_aim_22 ⟨by decide, by decide⟩ ?_
        refine a_icmp_ne (tgt := 40) dX9_aim_23 (by decide) (fun c23_8 => ?_) (fun c23_8 => absurd c23_8 (by omega))
        refine a_aload_n (j := 0) dX9_aim_40 rfl rfl (Nat.le_of_ble_eq_true rfl) ?_
        refine b_getp (a := 123) (p := 124) dX9_aim_41 fwX9_9 (by decide) rfl (by decide) rfl rfl ?_
        refine a_iconst dX9_aim_44 ⟨by decide, by decide⟩ ?_
        refine a_iload_n (j := 1) dX9_aim_45 rfl rfl ?_
        refine a_iadd (z := (2 + q)) dX9_aim_46 (w_ok (by omega) (by omega)) ?_
        refine b_iaload (a := 124) (z := v2) (Int.toNat (2 + q)) dX9_aim_47 (by decide) rfl (by omega) (by omega) (sp_nil rfl _) e2 (fun r47_9 => ?_)
        refine a_istore_n (lv' := [(3, vI v2), (0, vA 123), (1, vI q), (2, vI v)]) dX9_aim_48 rfl (by decide) rfl ?_
        refine a_aload_n (j := 1) dX9_aim_49 rfl rfl (Nat.le_of_ble_eq_true rfl) ?_
        refine b_getp (a := 123) (p := 124) dX9_aim_50 fwX9_9 (by decide) rfl (by decide) rfl rfl ?_
        refine a_iconst dX9_aim_53 ⟨by decide, by decide⟩ ?_
        refine a_iload_n (j := 2) dX9_aim_54 rfl rfl ?_
        refine a_iadd (z := (2 + q)) dX9_aim_55 (w_ok (by omega) (by omega)) ?_
        refine a_iload_n (j := 3) dX9_aim_56 rfl rfl ?_
        refine b_iastore (a := 124) (Int.toNat (2 + q)) dX9_aim_57 (by decide) rfl (by omega) (by omega) (sp_nil rfl _) ?_
        refine a_aload_n (j := 1) dX9_aim_58 rfl rfl (Nat.le_of_ble_eq_true rfl) ?_
        refine a_iconst dX9_aim_59 ⟨by decide, by decide⟩ ?_
        refine b_put (a := 123) (v := vI 0) dX9_aim_60 pwX9_111 (fun h => nomatch h) (by decide) rfl (by decide) rfl rfl (fit_bool (by first | exact Or.inl rfl | exact Or.inr rfl | omega)) ?_
        show Aj γ mX9_aim d 0 0 Post 63 [(3, vI v2), (0, vA 123), (1, vI q), (2, vI v)] [] (mk (up2 (up2 h 124 (Int.toNat (2 + q)) v) 123 4 0) τ)
        refine a_iload_n (j := 0) dX9_aim_63 rfl rfl ?_
        exact a_iret dX9_aim_64 rfl (k4 t3_1 c10_2 t15_7 c23_8)
      · have t15_7 : ¬ (0 ≤ v ∧ v < v1) := t15_7
        show Aj γ mX9_aim d 0 0 Post 18 [(0, vA 123), (1, vI q), (2, vI v)] [vI 0] (mk h τ)
        refine a_if_eq (tgt := 37) dX9_aim_18 (by decide) (fun _ => ?_) (fun c => absurd c (by decide))
        refine a_ldc (z := (-1000000001)) dX9_aim_37 kwX9_146 ⟨by decide, by decide, by decide⟩ ?_
        exact a_iret dX9_aim_39 rfl (k5 t3_1 c10_2 t15_7)
  · have t3_1 : ¬ (0 ≤ q ∧ q ≤ 1) := t3_1
    show Aj γ mX9_aim d 0 0 Post 6 [(0, vA 123), (1, vI q), (2, vI v)] [vI 0] (mk h τ)
    refine a_if_eq (tgt := 37) dX9_aim_6 (by decide) (fun _ => ?_) (fun c => absurd c (by decide))
    refine a_ldc (z := (-1000000001)) dX9_aim_37 kwX9_146 ⟨by decide, by decide, by decide⟩ ?_
    exact a_iret dX9_aim_39 rfl (k6 t3_1)
set_option maxHeartbeats 8000000 in
theorem c_X9_trim {γ : GT} {d : Nat} {n : Int} {h : Nat → Nat → Int} {τ : List AC} {Post : Option AV → List AC → Prop} (hd : 2 ≤ d) {v1 : Int} (e1 : h 123 17 = v1) (hT : 0 ≤ v1 ∧ v1 ≤ 96) (k1 : (0 ≤ n ∧ n ≤ v1) → Post (some (vI n)) (mk (up2 h 123 17 n) τ)) (k2 : (¬ (0 ≤ n ∧ n ≤ v1)) → Post (some (vI (-1000000001))) (mk h τ)) : Cj γ mX9_trim d 0 0 [vA 123, vI n] (mk h τ) Post := by
  refine c_of (by decide) (Nat.le_of_ble_eq_true rfl) ?_
  show Aj γ mX9_trim d 0 0 Post 0 [(0, vA 123), (1, vI n)] [] (mk h τ)
  refine a_iload_n (j := 1) dX9_trim_0 rfl rfl ?_
  refine a_iconst dX9_trim_1 ⟨by decide, by decide⟩ ?_
  refine a_aload_n (j := 0) dX9_trim_2 rfl rfl (Nat.le_of_ble_eq_true rfl) ?_
  refine b_get (a := 123) (z := v1) (t := 0) dX9_trim_3 fwX9_229 (by decide) rfl (by decide) rfl rfl e1 ?_
  refine a_callS (d' := d - 1) (mc' := 0) (ms' := 0) (mc1 := 0) (ms1 := 0) (st := []) [vI n, vI 0, vI v1] dX9_trim_6 mwX9_in lkX9_103 rfl (Nat.le_of_ble_eq_true rfl) (by omega) rfl rfl (c_X9_in  (by omega)    (fun t6_1 => ?_) (fun t6_1 => ?_))
  · have t6_1 : 0 ≤ n ∧ n ≤ v1 := t6_1
    show Aj γ mX9_trim d 0 0 Post 9 [(0, vA 123), (1, vI n)] [vI 1] (mk h τ)
    refine a_if_ne (tgt := 15) dX9_trim_9 (by decide) (fun _ => ?_) (fun c => absurd c (by decide))
    refine a_aload_n (j := 0) dX9_trim_15 rfl rfl (Nat.le_of_ble_eq_true rfl) ?_
    refine a_iload_n (j := 1) dX9_trim_16 rfl rfl ?_
    refine b_put (a := 123) (v := vI n) dX9_trim_17 pwX9_229 (fun h => nomatch h) (by decide) rfl (by decide) rfl rfl (fit_int _) ?_
    show Aj γ mX9_trim d 0 0 Post 20 [(0, vA 123), (1, vI n)] [] (mk (up2 h 123 17 n) τ)
    refine a_iload_n (j := 1) dX9_trim_20 rfl rfl ?_
    exact a_iret dX9_trim_21 rfl (k1 t6_1)
  · have t6_1 : ¬ (0 ≤ n ∧ n ≤ v1) := t6_1
    show Aj γ mX9_trim d 0 0 Post 9 [(0, vA 123), (1, vI n)] [vI 0] (mk h τ)
    refine a_if_ne (tgt := 15) dX9_trim_9 (by decide) (fun c => absurd c (by decide)) (fun _ => ?_)
    refine a_ldc (z := (-1000000001)) dX9_trim_12 kwX9_146 ⟨by decide, by decide, by decide⟩ ?_
    exact a_iret dX9_trim_14 rfl (k2 t6_1)
set_option maxHeartbeats 8000000 in
theorem c_X9_guest {γ : GT} {d : Nat} {s m : Int} {h : Nat → Nat → Int} {τ : List AC} {Post : Option AV → List AC → Prop} (hd : 2 ≤ d) {v1 : Int} (e1 : h 124 4 = v1) {v2 : Int} (e2 : h 124 8 = v2) (hS : 0 ≤ v1 ∧ v1 ≤ 6) (hG : 0 ≤ v2 ∧ v2 ≤ 10) (k1 : (0 ≤ s ∧ s < v1) → (0 ≤ m ∧ m ≤ 1439) → (¬ v2 = 10) → Post (some (vI ((v2 + 1) - 1))) (mk (up2 (up2 (up2 h 124 (Int.toNat (153 + (2 * v2))) s) 124 (Int.toNat ((153 + (2 * v2)) + 1)) m) 124 8 (v2 + 1)) τ)) (k2 : (0 ≤ s ∧ s < v1) → (0 ≤ m ∧ m ≤ 1439) → (v2 = 10) → Post (some (vI (-1000000003))) (mk h τ)) (k3 : (0 ≤ s ∧ s < v1) → (¬ (0 ≤ m ∧ m ≤ 1439)) → Post (some (vI (-1000000001))) (mk h τ)) (k4 : (¬ (0 ≤ s ∧ s < v1)) → Post (some (vI (-1000000001))) (mk h τ)) : Cj γ mX9_guest d 0 0 [vA 123, vI s, vI m] (mk h τ) Post := by
  refine c_of (by decide) (Nat.le_of_ble_eq_true rfl) ?_
  show Aj γ mX9_guest d 0 0 Post 0 [(0, vA 123), (1, vI s), (2, vI m)] [] (mk h τ)
  refine a_aload_n (j := 0) dX9_guest_0 rfl rfl (Nat.le_of_ble_eq_true rfl) ?_
  refine a_iload_n (j := 1) dX9_guest_1 rfl rfl ?_
  refine b_callV (d' := d - 1) (mc' := 0) (ms' := 0) (mc1 := 0) (ms1 := 0) (st := []) (b := 123) [vI s] dX9_guest_2 mwX9_isStop lkX9_148 (by decide) rfl rc_X9 rfl (Nat.le_of_ble_eq_true rfl) (by omega) rfl rfl (c_X9_isStop (v1 := v1) (by omega)  e1 (show 0 ≤ v1 ∧ v1 ≤ 6 by omega) (fun t2_1 => ?_) (fun t2_1 => ?_))
  · have t2_1 : 0 ≤ s ∧ s < v1 := t2_1
    show Aj γ mX9_guest d 0 0 Post 5 [(0, vA 123), (1, vI s), (2, vI m)] [vI 1] (mk h τ)
    refine a_if_eq (tgt := 19) dX9_guest_5 (by decide) (fun c => absurd c (by decide)) (fun _ => ?_)
    refine a_iload_n (j := 2) dX9_guest_8 rfl rfl ?_
    refine a_iconst dX9_guest_9 ⟨by decide, by decide⟩ ?_
    refine a_sipush dX9_guest_10 ⟨by decide, by decide, by decide⟩ ?_
    refine a_callS (d' := d - 1) (mc' := 0) (ms' := 0) (mc1 := 0) (ms1 := 0) (st := []) [vI m, vI 0, vI 1439] dX9_guest_13 mwX9_in lkX9_103 rfl (Nat.le_of_ble_eq_true rfl) (by omega) rfl rfl (c_X9_in  (by omega)    (fun t13_2 => ?_) (fun t13_2 => ?_))
    · have t13_2 : 0 ≤ m ∧ m ≤ 1439 := t13_2
      show Aj γ mX9_guest d 0 0 Post 16 [(0, vA 123), (1, vI s), (2, vI m)] [vI 1] (mk h τ)
      refine a_if_ne (tgt := 22) dX9_guest_16 (by decide) (fun _ => ?_) (fun c => absurd c (by decide))
      refine a_aload_n (j := 0) dX9_guest_22 rfl rfl (Nat.le_of_ble_eq_true rfl) ?_
      refine b_getp (a := 123) (p := 124) dX9_guest_23 fwX9_9 (by decide) rfl (by decide) rfl rfl ?_
      refine a_bipush dX9_guest_26 ⟨by decide, by decide, by decide⟩ ?_
      refine b_iaload (a := 124) (z := v2) 8 dX9_guest_28 (by decide) rfl rfl (by decide) rfl e2 (fun r28_3 => ?_)
      refine a_bipush dX9_guest_29 ⟨by decide, by decide, by decide⟩ ?_
      refine a_icmp_ne (tgt := 37) dX9_guest_31 (by decide) (fun c31_4 => ?_) (fun c31_4 => ?_)
      · refine a_aload_n (j := 0) dX9_guest_37 rfl rfl (Nat.le_of_ble_eq_true rfl) ?_
        refine b_getp (a := 123) (p := 124) dX9_guest_38 fwX9_9 (by decide) rfl (by decide) rfl rfl ?_
        refine a_sipush dX9_guest_41 ⟨by decide, by decide, by decide⟩ ?_
        refine a_iconst dX9_guest_44 ⟨by decide, by decide⟩ ?_
        refine a_aload_n (j := 0) dX9_guest_45 rfl rfl (Nat.le_of_ble_eq_true rfl) ?_
        refine b_getp (a := 123) (p := 124) dX9_guest_46 fwX9_9 (by decide) rfl (by decide) rfl rfl ?_
        refine a_bipush dX9_guest_49 ⟨by decide, by decide, by decide⟩ ?_
        refine b_iaload (a := 124) (z := v2) 8 dX9_guest_51 (by decide) rfl rfl (by decide) rfl e2 (fun r51_5 => ?_)
        refine a_imul (z := (2 * v2)) dX9_guest_52 (w_ok (by omega) (by omega)) ?_
        refine a_iadd (z := (153 + (2 * v2))) dX9_guest_53 (w_ok (by omega) (by omega)) ?_
        refine a_iload_n (j := 1) dX9_guest_54 rfl rfl ?_
        refine b_iastore (a := 124) (Int.toNat (153 + (2 * v2))) dX9_guest_55 (by decide) rfl (by omega) (by omega) (sp_nil rfl _) ?_
        refine a_aload_n (j := 0) dX9_guest_56 rfl rfl (Nat.le_of_ble_eq_true rfl) ?_
        refine b_getp (a := 123) (p := 124) dX9_guest_57 fwX9_9 (by decide) rfl (by decide) rfl rfl ?_
        refine a_sipush dX9_guest_60 ⟨by decide, by decide, by decide⟩ ?_
        refine a_iconst dX9_guest_63 ⟨by decide, by decide⟩ ?_
        refine a_aload_n (j := 0) dX9_guest_64 rfl rfl (Nat.le_of_ble_eq_true rfl) ?_
        refine b_getp (a := 123) (p := 124) dX9_guest_65 fwX9_9 (by decide) rfl (by decide) rfl rfl ?_
        refine a_bipush dX9_guest_68 ⟨by decide, by decide, by decide⟩ ?_
        refine b_iaload (a := 124) (z := v2) 8 dX9_guest_70 (by decide) rfl rfl (by decide) rfl ((up2_ne (by omega)).trans e2) (fun r70_6 => ?_)
        refine a_imul (z := (2 * v2)) dX9_guest_71 (w_ok (by omega) (by omega)) ?_
        refine a_iadd (z := (153 + (2 * v2))) dX9_guest_72 (w_ok (by omega) (by omega)) ?_
        refine a_iconst dX9_guest_73 ⟨by decide, by decide⟩ ?_
        refine a_iadd (z := ((153 + (2 * v2)) + 1)) dX9_guest_74 (w_ok (by omega) (by omega)) ?_
        refine a_iload_n (j := 2) dX9_guest_75 rfl rfl ?_
        refine b_iastore (a := 124) (Int.toNat ((153 + (2 * v2)) + 1)) dX9_guest_76 (by decide) rfl (by omega) (by omega) (sp_nil rfl _) ?_
        refine a_aload_n (j := 0) dX9_guest_77 rfl rfl (Nat.le_of_ble_eq_true rfl) ?_
        refine b_getp (a := 123) (p := 124) dX9_guest_78 fwX9_9 (by decide) rfl (by decide) rfl rfl ?_
        refine a_bipush dX9_guest_81 ⟨by decide, by decide, by decide⟩ ?_
        refine a_dup2 dX9_guest_83 (fun h => nomatch h) (fun h => nomatch h) ?_
        refine b_iaload (a := 124) (z := v2) 8 dX9_guest_84 (by decide) rfl rfl (by decide) rfl ((up2_ne (by omega)).trans ((up2_ne (by omega)).trans e2)) (fun r84_7 => ?_)
        refine a_iconst dX9_guest_85 ⟨by decide, by decide⟩ ?_
        refine a_iadd (z := (v2 + 1)) dX9_guest_86 (w_ok (by omega) (by omega)) ?_
        refine b_iastore (a := 124) 8 dX9_guest_87 (by decide) rfl rfl (by decide) rfl ?_
        refine a_aload_n (j := 0) dX9_guest_88 rfl rfl (Nat.le_of_ble_eq_true rfl) ?_
        refine b_getp (a := 123) (p := 124) dX9_guest_89 fwX9_9 (by decide) rfl (by decide) rfl rfl ?_
        refine a_bipush dX9_guest_92 ⟨by decide, by decide, by decide⟩ ?_
        refine b_iaload (a := 124) (z := (v2 + 1)) 8 dX9_guest_94 (by decide) rfl rfl (by decide) rfl up2_at (fun r94_8 => ?_)
        refine a_iconst dX9_guest_95 ⟨by decide, by decide⟩ ?_
        refine a_isub (z := ((v2 + 1) - 1)) dX9_guest_96 (w_ok (by omega) (by omega)) ?_
        exact a_iret dX9_guest_97 rfl (k1 t2_1 t13_2 c31_4)
      · refine a_ldc (z := (-1000000003)) dX9_guest_34 kwX9_147 ⟨by decide, by decide, by decide⟩ ?_
        exact a_iret dX9_guest_36 rfl (k2 t2_1 t13_2 c31_4)
    · have t13_2 : ¬ (0 ≤ m ∧ m ≤ 1439) := t13_2
      show Aj γ mX9_guest d 0 0 Post 16 [(0, vA 123), (1, vI s), (2, vI m)] [vI 0] (mk h τ)
      refine a_if_ne (tgt := 22) dX9_guest_16 (by decide) (fun c => absurd c (by decide)) (fun _ => ?_)
      refine a_ldc (z := (-1000000001)) dX9_guest_19 kwX9_146 ⟨by decide, by decide, by decide⟩ ?_
      exact a_iret dX9_guest_21 rfl (k3 t2_1 t13_2)
  · have t2_1 : ¬ (0 ≤ s ∧ s < v1) := t2_1
    show Aj γ mX9_guest d 0 0 Post 5 [(0, vA 123), (1, vI s), (2, vI m)] [vI 0] (mk h τ)
    refine a_if_eq (tgt := 19) dX9_guest_5 (by decide) (fun _ => ?_) (fun c => absurd c (by decide))
    refine a_ldc (z := (-1000000001)) dX9_guest_19 kwX9_146 ⟨by decide, by decide, by decide⟩ ?_
    exact a_iret dX9_guest_21 rfl (k4 t2_1)
set_option maxHeartbeats 8000000 in
theorem c_X9_part {γ : GT} {d : Nat}  {h : Nat → Nat → Int} {τ : List AC} {Post : Option AV → List AC → Prop} (hd : 2 ≤ d) {v1 : Int} (e1 : h 124 8 = v1) (k1 : Post (some (vI v1)) (mk (up2 h 124 8 0) τ)) : Cj γ mX9_part d 0 0 [vA 123] (mk h τ) Post := by
  refine c_of (by decide) (Nat.le_of_ble_eq_true rfl) ?_
  show Aj γ mX9_part d 0 0 Post 0 [(0, vA 123)] [] (mk h τ)
  refine a_aload_n (j := 0) dX9_part_0 rfl rfl (Nat.le_of_ble_eq_true rfl) ?_
  refine b_getp (a := 123) (p := 124) dX9_part_1 fwX9_9 (by decide) rfl (by decide) rfl rfl ?_
  refine a_bipush dX9_part_4 ⟨by decide, by decide, by decide⟩ ?_
  refine b_iaload (a := 124) (z := v1) 8 dX9_part_6 (by decide) rfl rfl (by decide) rfl e1 (fun r6_1 => ?_)
  refine a_istore_n (lv' := [(1, vI v1), (0, vA 123)]) dX9_part_7 rfl (by decide) rfl ?_
  refine a_aload_n (j := 1) dX9_part_8 rfl rfl (Nat.le_of_ble_eq_true rfl) ?_
  refine b_getp (a := 123) (p := 124) dX9_part_9 fwX9_9 (by decide) rfl (by decide) rfl rfl ?_
  refine a_bipush dX9_part_12 ⟨by decide, by decide, by decide⟩ ?_
  refine a_iconst dX9_part_14 ⟨by decide, by decide⟩ ?_
  refine b_iastore (a := 124) 8 dX9_part_15 (by decide) rfl rfl (by decide) rfl ?_
  refine a_iload_n (j := 0) dX9_part_16 rfl rfl ?_
  exact a_iret dX9_part_17 rfl k1
set_option maxHeartbeats 8000000 in
theorem c_X9_seed {γ : GT} {d : Nat} {v : Int} {h : Nat → Nat → Int} {τ : List AC} {Post : Option AV → List AC → Prop} (hd : 2 ≤ d) {v1 : Int} (e1 : h 124 0 = v1) (k1 : Post (some (vI v1)) (mk (up2 h 124 0 v) τ)) : Cj γ mX9_seed d 0 0 [vA 123, vI v] (mk h τ) Post := by
  refine c_of (by decide) (Nat.le_of_ble_eq_true rfl) ?_
  show Aj γ mX9_seed d 0 0 Post 0 [(0, vA 123), (1, vI v)] [] (mk h τ)
  refine a_aload_n (j := 0) dX9_seed_0 rfl rfl (Nat.le_of_ble_eq_true rfl) ?_
  refine b_getp (a := 123) (p := 124) dX9_seed_1 fwX9_9 (by decide) rfl (by decide) rfl rfl ?_
  refine a_iconst dX9_seed_4 ⟨by decide, by decide⟩ ?_
  refine b_iaload (a := 124) (z := v1) 0 dX9_seed_5 (by decide) rfl rfl (by decide) rfl e1 (fun r5_1 => ?_)
  refine a_istore_n (lv' := [(2, vI v1), (0, vA 123), (1, vI v)]) dX9_seed_6 rfl (by decide) rfl ?_
  refine a_aload_n (j := 1) dX9_seed_7 rfl rfl (Nat.le_of_ble_eq_true rfl) ?_
  refine b_getp (a := 123) (p := 124) dX9_seed_8 fwX9_9 (by decide) rfl (by decide) rfl rfl ?_
  refine a_iconst dX9_seed_11 ⟨by decide, by decide⟩ ?_
  refine a_iload_n (j := 2) dX9_seed_12 rfl rfl ?_
  refine b_iastore (a := 124) 0 dX9_seed_13 (by decide) rfl rfl (by decide) rfl ?_
  refine a_iload_n (j := 0) dX9_seed_14 rfl rfl ?_
  exact a_iret dX9_seed_15 rfl k1
set_option maxHeartbeats 8000000 in
theorem c_X9_tell {γ : GT} {d : Nat} {v : Int} {h : Nat → Nat → Int} {τ : List AC} {Post : Option AV → List AC → Prop} (hd : 2 ≤ d) {v1 : Int} (e1 : h 123 44 = v1) (hW : 0 ≤ v1 ∧ v1 ≤ 60) (k1 : (¬ v1 = 60) → Post (some (vI (v1 + 1))) (mk (up2 (up2 h 153 (Int.toNat v1) v) 123 44 (v1 + 1)) τ)) (k2 : (v1 = 60) → Post (some (vI (-1000000003))) (mk h τ)) : Cj γ mX9_tell d 0 0 [vA 123, vI v] (mk h τ) Post := by
  refine c_of (by decide) (Nat.le_of_ble_eq_true rfl) ?_
  show Aj γ mX9_tell d 0 0 Post 0 [(0, vA 123), (1, vI v)] [] (mk h τ)
  refine a_aload_n (j := 0) dX9_tell_0 rfl rfl (Nat.le_of_ble_eq_true rfl) ?_
  refine b_get (a := 123) (z := v1) (t := 0) dX9_tell_1 fwX9_323 (by decide) rfl (by decide) rfl rfl e1 ?_
  refine a_bipush dX9_tell_4 ⟨by decide, by decide, by decide⟩ ?_
  refine a_icmp_ne (tgt := 12) dX9_tell_6 (by decide) (fun c6_1 => ?_) (fun c6_1 => ?_)
  · refine a_aload_n (j := 0) dX9_tell_12 rfl rfl (Nat.le_of_ble_eq_true rfl) ?_
    refine b_getp (a := 123) (p := 153) dX9_tell_13 fwX9_100 (by decide) rfl (by decide) rfl rfl ?_
    refine a_aload_n (j := 0) dX9_tell_16 rfl rfl (Nat.le_of_ble_eq_true rfl) ?_
    refine b_get (a := 123) (z := v1) (t := 0) dX9_tell_17 fwX9_323 (by decide) rfl (by decide) rfl rfl e1 ?_
    refine a_iload_n (j := 1) dX9_tell_20 rfl rfl ?_
    refine b_iastore (a := 153) (Int.toNat v1) dX9_tell_21 (by decide) rfl (by omega) (by omega) (sp_nil rfl _) ?_
    refine a_aload_n (j := 0) dX9_tell_22 rfl rfl (Nat.le_of_ble_eq_true rfl) ?_
    refine a_dup dX9_tell_23 (fun h => nomatch h) ?_
    refine b_get (a := 123) (z := v1) (t := 0) dX9_tell_24 fwX9_323 (by decide) rfl (by decide) rfl rfl ((up2_ne (by omega)).trans e1) ?_
    refine a_iconst dX9_tell_27 ⟨by decide, by decide⟩ ?_
    refine a_iadd (z := (v1 + 1)) dX9_tell_28 (w_ok (by omega) (by omega)) ?_
    refine b_put (a := 123) (v := vI (v1 + 1)) dX9_tell_29 pwX9_323 (fun h => nomatch h) (by decide) rfl (by decide) rfl rfl (fit_int _) ?_
    show Aj γ mX9_tell d 0 0 Post 32 [(0, vA 123), (1, vI v)] [] (mk (up2 (up2 h 153 (Int.toNat v1) v) 123 44 (v1 + 1)) τ)
    refine a_aload_n (j := 0) dX9_tell_32 rfl rfl (Nat.le_of_ble_eq_true rfl) ?_
    refine b_get (a := 123) (z := (v1 + 1)) (t := 0) dX9_tell_33 fwX9_323 (by decide) rfl (by decide) rfl rfl up2_at ?_
    exact a_iret dX9_tell_36 rfl (k1 c6_1)
  · refine a_ldc (z := (-1000000003)) dX9_tell_9 kwX9_147 ⟨by decide, by decide, by decide⟩ ?_
    exact a_iret dX9_tell_11 rfl (k2 c6_1)
set_option maxHeartbeats 8000000 in
theorem c_X9_count {γ : GT} {d : Nat} {q : Int} {h : Nat → Nat → Int} {τ : List AC} {Post : Option AV → List AC → Prop} (hd : 2 ≤ d) {v1 : Int} (e1 : h 124 4 = v1) {v2 : Int} (e2 : h 124 5 = v2) {v3 : Int} (e3 : h 124 6 = v3) {v4 : Int} (e4 : h 124 7 = v4) {v5 : Int} (e5 : h 124 8 = v5) {v6 : Int} (e6 : h 124 2 = v6) {v7 : Int} (e7 : h 124 3 = v7) {v8 : Int} (e8 : h 124 1 = v8) {v9 : Int} (e9 : h 123 44 = v9) {v10 : Int} (e10 : h 123 17 = v10) {v11 : Int} (e11 : h 124 0 = v11) (k1 : (q = 0) → Post (some (vI v1)) (mk h τ)) (k2 : (q = 1) → Post (some (vI v2)) (mk h τ)) (k3 : (q = 2) → Post (some (vI v3)) (mk h τ)) (k4 : (q = 3) → Post (some (vI v4)) (mk h τ)) (k5 : (q = 4) → Post (some (vI v5)) (mk h τ)) (k6 : (q = 5) → Post (some (vI v6)) (mk h τ)) (k7 : (q = 6) → Post (some (vI v7)) (mk h τ)) (k8 : (q = 7) → Post (some (vI v8)) (mk h τ)) (k9 : (q = 8) → Post (some (vI v9)) (mk h τ)) (k10 : (q = 9) → Post (some (vI v10)) (mk h τ)) (k11 : (q = 10) → Post (some (vI v11)) (mk h τ)) (k12 : (¬ q = 0 ∧ ¬ q = 1 ∧ ¬ q = 2 ∧ ¬ q = 3 ∧ ¬ q = 4 ∧ ¬ q = 5 ∧ ¬ q = 6 ∧ ¬ q = 7 ∧ ¬ q = 8 ∧ ¬ q = 9 ∧ ¬ q = 10) → Post (some (vI (-1000000001))) (mk h τ)) : Cj γ mX9_count d 0 0 [vA 123, vI q] (mk h τ) Post := by
  refine c_of (by decide) (Nat.le_of_ble_eq_true rfl) ?_
  show Aj γ mX9_count d 0 0 Post 0 [(0, vA 123), (1, vI q)] [] (mk h τ)
  refine a_iload_n (j := 1) dX9_count_0 rfl rfl ?_
  rcases (show q = 0 ∨ q = 1 ∨ q = 2 ∨ q = 3 ∨ q = 4 ∨ q = 5 ∨ q = 6 ∨ q = 7 ∨ q = 8 ∨ q = 9 ∨ q = 10 ∨ (¬ q = 0 ∧ ¬ q = 1 ∧ ¬ q = 2 ∧ ¬ q = 3 ∧ ¬ q = 4 ∧ ¬ q = 5 ∧ ¬ q = 6 ∧ ¬ q = 7 ∧ ¬ q = 8 ∧ ¬ q = 9 ∧ ¬ q = 10) by omega) with c1_1 | c1_1 | c1_1 | c1_1 | c1_1 | c1_1 | c1_1 | c1_1 | c1_1 | c1_1 | c1_1 | c1_1
  · refine a_tblIn (tgt := 60) 0 dX9_count_1 ⟨by omega, by omega⟩ rfl (by decide) ?_
    refine a_aload_n (j := 0) dX9_count_60 rfl rfl (Nat.le_of_ble_eq_true rfl) ?_
    refine b_getp (a := 123) (p := 124) dX9_count_61 fwX9_9 (by decide) rfl (by decide) rfl rfl ?_
    refine a_iconst dX9_count_64 ⟨by decide, by decide⟩ ?_
    refine b_iaload (a := 124) (z := v1) 4 dX9_count_65 (by decide) rfl rfl (by decide) rfl e1 (fun r65_2 => ?_)
    exact a_iret dX9_count_66 rfl (k1 c1_1)
  · refine a_tblIn (tgt := 67) 1 dX9_count_1 ⟨by omega, by omega⟩ rfl (by decide) ?_
    refine a_aload_n (j := 0) dX9_count_67 rfl rfl (Nat.le_of_ble_eq_true rfl) ?_
    refine b_getp (a := 123) (p := 124) dX9_count_68 fwX9_9 (by decide) rfl (by decide) rfl rfl ?_
    refine a_iconst dX9_count_71 ⟨by decide, by decide⟩ ?_
    refine b_iaload (a := 124) (z := v2) 5 dX9_count_72 (by decide) rfl rfl (by decide) rfl e2 (fun r72_3 => ?_)
    exact a_iret dX9_count_73 rfl (k2 c1_1)
  · refine a_tblIn (tgt := 74) 2 dX9_count_1 ⟨by omega, by omega⟩ rfl (by decide) ?_
    refine a_aload_n (j := 0) dX9_count_74 rfl rfl (Nat.le_of_ble_eq_true rfl) ?_
    refine b_getp (a := 123) (p := 124) dX9_count_75 fwX9_9 (by decide) rfl (by decide) rfl rfl ?_
    refine a_bipush dX9_count_78 ⟨by decide, by decide, by decide⟩ ?_
    refine b_iaload (a := 124) (z := v3) 6 dX9_count_80 (by decide) rfl rfl (by decide) rfl e3 (fun r80_4 => ?_)
    exact a_iret dX9_count_81 rfl (k3 c1_1)
  · refine a_tblIn (tgt := 82) 3 dX9_count_1 ⟨by omega, by omega⟩ rfl (by decide) ?_
    refine a_aload_n (j := 0) dX9_count_82 rfl rfl (Nat.le_of_ble_eq_true rfl) ?_
    refine b_getp (a := 123) (p := 124) dX9_count_83 fwX9_9 (by decide) rfl (by decide) rfl rfl ?_
    refine a_bipush dX9_count_86 ⟨by decide, by decide, by decide⟩ ?_
    refine b_iaload (a := 124) (z := v4) 7 dX9_count_88 (by decide) rfl rfl (by decide) rfl e4 (fun r88_5 => ?_)
    exact a_iret dX9_count_89 rfl (k4 c1_1)
  · refine a_tblIn (tgt := 90) 4 dX9_count_1 ⟨by omega, by omega⟩ rfl (by decide) ?_
    refine a_aload_n (j := 0) dX9_count_90 rfl rfl (Nat.le_of_ble_eq_true rfl) ?_
    refine b_getp (a := 123) (p := 124) dX9_count_91 fwX9_9 (by decide) rfl (by decide) rfl rfl ?_
    refine a_bipush dX9_count_94 ⟨by decide, by decide, by decide⟩ ?_
    refine b_iaload (a := 124) (z := v5) 8 dX9_count_96 (by decide) rfl rfl (by decide) rfl e5 (fun r96_6 => ?_)
    exact a_iret dX9_count_97 rfl (k5 c1_1)
  · refine a_tblIn (tgt := 98) 5 dX9_count_1 ⟨by omega, by omega⟩ rfl (by decide) ?_
    refine a_aload_n (j := 0) dX9_count_98 rfl rfl (Nat.le_of_ble_eq_true rfl) ?_
    refine b_getp (a := 123) (p := 124) dX9_count_99 fwX9_9 (by decide) rfl (by decide) rfl rfl ?_
    refine a_iconst dX9_count_102 ⟨by decide, by decide⟩ ?_
    refine b_iaload (a := 124) (z := v6) 2 dX9_count_103 (by decide) rfl rfl (by decide) rfl e6 (fun r103_7 => ?_)
    exact a_iret dX9_count_104 rfl (k6 c1_1)
  · refine a_tblIn (tgt := 105) 6 dX9_count_1 ⟨by omega, by omega⟩ rfl (by decide) ?_
    refine a_aload_n (j := 0) dX9_count_105 rfl rfl (Nat.le_of_ble_eq_true rfl) ?_
    refine b_getp (a := 123) (p := 124) dX9_count_106 fwX9_9 (by decide) rfl (by decide) rfl rfl ?_
    refine a_iconst dX9_count_109 ⟨by decide, by decide⟩ ?_
    refine b_iaload (a := 124) (z := v7) 3 dX9_count_110 (by decide) rfl rfl (by decide) rfl e7 (fun r110_8 => ?_)
    exact a_iret dX9_count_111 rfl (k7 c1_1)
  · refine a_tblIn (tgt := 112) 7 dX9_count_1 ⟨by omega, by omega⟩ rfl (by decide) ?_
    refine a_aload_n (j := 0) dX9_count_112 rfl rfl (Nat.le_of_ble_eq_true rfl) ?_
    refine b_getp (a := 123) (p := 124) dX9_count_113 fwX9_9 (by decide) rfl (by decide) rfl rfl ?_
    refine a_iconst dX9_count_116 ⟨by decide, by decide⟩ ?_
    refine b_iaload (a := 124) (z := v8) 1 dX9_count_117 (by decide) rfl rfl (by decide) rfl e8 (fun r117_9 => ?_)
    exact a_iret dX9_count_118 rfl (k8 c1_1)
  · refine a_tblIn (tgt := 119) 8 dX9_count_1 ⟨by omega, by omega⟩ rfl (by decide) ?_
    refine a_aload_n (j := 0) dX9_count_119 rfl rfl (Nat.le_of_ble_eq_true rfl) ?_
    refine b_get (a := 123) (z := v9) (t := 0) dX9_count_120 fwX9_323 (by decide) rfl (by decide) rfl rfl e9 ?_
    exact a_iret dX9_count_123 rfl (k9 c1_1)
  · refine a_tblIn (tgt := 124) 9 dX9_count_1 ⟨by omega, by omega⟩ rfl (by decide) ?_
    refine a_aload_n (j := 0) dX9_count_124 rfl rfl (Nat.le_of_ble_eq_true rfl) ?_
    refine b_get (a := 123) (z := v10) (t := 0) dX9_count_125 fwX9_229 (by decide) rfl (by decide) rfl rfl e10 ?_
    exact a_iret dX9_count_128 rfl (k10 c1_1)
  · refine a_tblIn (tgt := 129) 10 dX9_count_1 ⟨by omega, by omega⟩ rfl (by decide) ?_
    refine a_aload_n (j := 0) dX9_count_129 rfl rfl (Nat.le_of_ble_eq_true rfl) ?_
    refine b_getp (a := 123) (p := 124) dX9_count_130 fwX9_9 (by decide) rfl (by decide) rfl rfl ?_
    refine a_iconst dX9_count_133 ⟨by decide, by decide⟩ ?_
    refine b_iaload (a := 124) (z := v11) 0 dX9_count_134 (by decide) rfl rfl (by decide) rfl e11 (fun r134_10 => ?_)
    exact a_iret dX9_count_135 rfl (k11 c1_1)
  · refine a_tblOut (tgt := 136) dX9_count_1 (by omega) (by decide) ?_
    refine a_ldc (z := (-1000000001)) dX9_count_136 kwX9_146 ⟨by decide, by decide, by decide⟩ ?_
    exact a_iret dX9_count_138 rfl (k12 c1_1)
set_option maxHeartbeats 8000000 in
theorem c_X9_hangs {γ : GT} {d : Nat} {t g : Int} {h : Nat → Nat → Int} {τ : List AC} {Post : Option AV → List AC → Prop} (hd : 2 ≤ d) {v1 : Int} (e1 : h 124 5 = v1) {v2 : Int} (e2 : h 124 (Int.toNat ((15 + (11 * t)) + 6)) = v2) (hN : 0 ≤ v1 ∧ v1 ≤ 12) (k1 : (0 ≤ t ∧ t < v1) → (g = (-1000000005)) → (g = (-1000000005)) → Post (some (vI (if v2 < 0 then -1000000005 else v2))) (mk (up2 (up2 h 124 (Int.toNat ((15 + (11 * t)) + 6)) (-1)) 123 4 0) τ)) (k2 : (0 ≤ t ∧ t < v1) → (¬ g = (-1000000005)) → (0 ≤ g ∧ g ≤ (t - 1)) → (¬ g = (-1000000005)) → Post (some (vI (if v2 < 0 then -1000000005 else v2))) (mk (up2 (up2 h 124 (Int.toNat ((15 + (11 * t)) + 6)) g) 123 4 0) τ)) (k3 : (0 ≤ t ∧ t < v1) → (¬ g = (-1000000005)) → (¬ (0 ≤ g ∧ g ≤ (t - 1))) → Post (some (vI (-1000000001))) (mk h τ)) (k4 : (¬ (0 ≤ t ∧ t < v1)) → Post (some (vI (-1000000001))) (mk h τ)) : Cj γ mX9_hangs d 0 0 [vA 123, vI t, vI g] (mk h τ) Post := by
  refine c_of (by decide) (Nat.le_of_ble_eq_true rfl) ?_
  show Aj γ mX9_hangs d 0 0 Post 0 [(0, vA 123), (1, vI t), (2, vI g)] [] (mk h τ)
  refine a_aload_n (j := 0) dX9_hangs_0 rfl rfl (Nat.le_of_ble_eq_true rfl) ?_
  refine a_iload_n (j := 1) dX9_hangs_1 rfl rfl ?_
  refine b_callV (d' := d - 1) (mc' := 0) (ms' := 0) (mc1 := 0) (ms1 := 0) (st := []) (b := 123) [vI t] dX9_hangs_2 mwX9_isTrain lkX9_152 (by decide) rfl rc_X9 rfl (Nat.le_of_ble_eq_true rfl) (by omega) rfl rfl (c_X9_isTrain (v1 := v1) (by omega)  e1 (show 0 ≤ v1 ∧ v1 ≤ 12 by omega) (fun t2_1 => ?_) (fun t2_1 => ?_))
  · have t2_1 : 0 ≤ t ∧ t < v1 := t2_1
    show Aj γ mX9_hangs d 0 0 Post 5 [(0, vA 123), (1, vI t), (2, vI g)] [vI 1] (mk h τ)
    refine a_if_eq (tgt := 25) dX9_hangs_5 (by decide) (fun c => absurd c (by decide)) (fun _ => ?_)
    refine a_iload_n (j := 2) dX9_hangs_8 rfl rfl ?_
    refine a_ldc (z := (-1000000005)) dX9_hangs_9 kwX9_115 ⟨by decide, by decide, by decide⟩ ?_
    refine a_icmp_eq (tgt := 28) dX9_hangs_11 (by decide) (fun c11_2 => ?_) (fun c11_2 => ?_)
    · refine a_aload_n (j := 0) dX9_hangs_28 rfl rfl (Nat.le_of_ble_eq_true rfl) ?_
      refine a_iload_n (j := 1) dX9_hangs_29 rfl rfl ?_
      refine a_bipush dX9_hangs_30 ⟨by decide, by decide, by decide⟩ ?_
      refine a_iload_n (j := 2) dX9_hangs_32 rfl rfl ?_
      refine a_ldc (z := (-1000000005)) dX9_hangs_33 kwX9_115 ⟨by decide, by decide, by decide⟩ ?_
      refine a_icmp_ne (tgt := 42) dX9_hangs_35 (by decide) (fun c35_3 => absurd c35_3 (by omega)) (fun c35_3 => ?_)
      refine a_iconst dX9_hangs_38 ⟨by decide, by decide⟩ ?_
      refine a_goto (tgt := 43) dX9_hangs_39 (by decide) ?_
      refine b_callV (d' := d - 1) (mc' := 0) (ms' := 0) (mc1 := 0) (ms1 := 0) (st := []) (b := 123) [vI t, vI 6, vI (-1)] dX9_hangs_43 mwX9_becomes lkX9_172 (by decide) rfl rc_X9 rfl (Nat.le_of_ble_eq_true rfl) (by omega) rfl rfl (c_X9_becomes (v1 := v2) (by omega)  e2 (show 0 ≤ t ∧ t ≤ 11 ∧ 0 ≤ 6 ∧ 6 ≤ 10 by omega) ?_)
      show Aj γ mX9_hangs d 0 0 Post 46 [(0, vA 123), (1, vI t), (2, vI g)] [vI v2] (mk (up2 (up2 h 124 (Int.toNat ((15 + (11 * t)) + 6)) (-1)) 123 4 0) τ)
      refine a_callS (d' := d - 1) (mc' := 0) (ms' := 0) (mc1 := 0) (ms1 := 0) (st := []) [vI v2] dX9_hangs_46 mwX9_orNone lkX9_161 rfl (Nat.le_of_ble_eq_true rfl) (by omega) rfl rfl (c_X9_orNone  (by omega)    ?_)
      show Aj γ mX9_hangs d 0 0 Post 49 [(0, vA 123), (1, vI t), (2, vI g)] [vI (if v2 < 0 then -1000000005 else v2)] (mk (up2 (up2 h 124 (Int.toNat ((15 + (11 * t)) + 6)) (-1)) 123 4 0) τ)
      exact a_iret dX9_hangs_49 rfl (k1 t2_1 c11_2 c35_3)
    · refine a_iload_n (j := 2) dX9_hangs_14 rfl rfl ?_
      refine a_iconst dX9_hangs_15 ⟨by decide, by decide⟩ ?_
      refine a_iload_n (j := 1) dX9_hangs_16 rfl rfl ?_
      refine a_iconst dX9_hangs_17 ⟨by decide, by decide⟩ ?_
      refine a_isub (z := (t - 1)) dX9_hangs_18 (w_ok (by omega) (by omega)) ?_
      refine a_callS (d' := d - 1) (mc' := 0) (ms' := 0) (mc1 := 0) (ms1 := 0) (st := []) [vI g, vI 0, vI (t - 1)] dX9_hangs_19 mwX9_in lkX9_103 rfl (Nat.le_of_ble_eq_true rfl) (by omega) rfl rfl (c_X9_in  (by omega)    (fun t19_4 => ?_) (fun t19_4 => ?_))
      · have t19_4 : 0 ≤ g ∧ g ≤ (t - 1) := t19_4
        show Aj γ mX9_hangs d 0 0 Post 22 [(0, vA 123), (1, vI t), (2, vI g)] [vI 1] (mk h τ)
        refine a_if_ne (tgt := 28) dX9_hangs_22 (by decide) (fun _ => ?_) (fun c => absurd c (by decide))
        refine a_aload_n (j := 0) dX9_hangs_28 rfl rfl (Nat.le_of_ble_eq_true rfl) ?_
        refine a_iload_n (j := 1) dX9_hangs_29 rfl rfl ?_
        refine a_bipush dX9_hangs_30 ⟨by decide, by decide, by decide⟩ ?_
        refine a_iload_n (j := 2) dX9_hangs_32 rfl rfl ?_
        refine a_ldc (z := (-1000000005)) dX9_hangs_33 kwX9_115 ⟨by decide, by decide, by decide⟩ ?_
        refine a_icmp_ne (tgt := 42) dX9_hangs_35 (by decide) (fun c35_5 => ?_) (fun c35_5 => absurd c35_5 (by omega))
        refine a_iload_n (j := 2) dX9_hangs_42 rfl rfl ?_
        refine b_callV (d' := d - 1) (mc' := 0) (ms' := 0) (mc1 := 0) (ms1 := 0) (st := []) (b := 123) [vI t, vI 6, vI g] dX9_hangs_43 mwX9_becomes lkX9_172 (by decide) rfl rc_X9 rfl (Nat.le_of_ble_eq_true rfl) (by omega) rfl rfl (c_X9_becomes (v1 := v2) (by omega)  e2 (show 0 ≤ t ∧ t ≤ 11 ∧ 0 ≤ 6 ∧ 6 ≤ 10 by omega) ?_)
        show Aj γ mX9_hangs d 0 0 Post 46 [(0, vA 123), (1, vI t), (2, vI g)] [vI v2] (mk (up2 (up2 h 124 (Int.toNat ((15 + (11 * t)) + 6)) g) 123 4 0) τ)
        refine a_callS (d' := d - 1) (mc' := 0) (ms' := 0) (mc1 := 0) (ms1 := 0) (st := []) [vI v2] dX9_hangs_46 mwX9_orNone lkX9_161 rfl (Nat.le_of_ble_eq_true rfl) (by omega) rfl rfl (c_X9_orNone  (by omega)    ?_)
        show Aj γ mX9_hangs d 0 0 Post 49 [(0, vA 123), (1, vI t), (2, vI g)] [vI (if v2 < 0 then -1000000005 else v2)] (mk (up2 (up2 h 124 (Int.toNat ((15 + (11 * t)) + 6)) g) 123 4 0) τ)
        exact a_iret dX9_hangs_49 rfl (k2 t2_1 c11_2 t19_4 c35_5)
      · have t19_4 : ¬ (0 ≤ g ∧ g ≤ (t - 1)) := t19_4
        show Aj γ mX9_hangs d 0 0 Post 22 [(0, vA 123), (1, vI t), (2, vI g)] [vI 0] (mk h τ)
        refine a_if_ne (tgt := 28) dX9_hangs_22 (by decide) (fun c => absurd c (by decide)) (fun _ => ?_)
        refine a_ldc (z := (-1000000001)) dX9_hangs_25 kwX9_146 ⟨by decide, by decide, by decide⟩ ?_
        exact a_iret dX9_hangs_27 rfl (k3 t2_1 c11_2 t19_4)
  · have t2_1 : ¬ (0 ≤ t ∧ t < v1) := t2_1
    show Aj γ mX9_hangs d 0 0 Post 5 [(0, vA 123), (1, vI t), (2, vI g)] [vI 0] (mk h τ)
    refine a_if_eq (tgt := 25) dX9_hangs_5 (by decide) (fun _ => ?_) (fun c => absurd c (by decide))
    refine a_ldc (z := (-1000000001)) dX9_hangs_25 kwX9_146 ⟨by decide, by decide, by decide⟩ ?_
    exact a_iret dX9_hangs_27 rfl (k4 t2_1)
set_option maxHeartbeats 8000000 in
theorem c_X9_as {γ : GT} {d : Nat} {t k : Int} {h : Nat → Nat → Int} {τ : List AC} {Post : Option AV → List AC → Prop} (hd : 2 ≤ d) {v1 : Int} (e1 : h 124 5 = v1) {v2 : Int} (e2 : h 124 (Int.toNat ((15 + (11 * t)) + 0)) = v2) {v3 : Int} (e3 : h 124 (Int.toNat ((15 + (11 * t)) + 3)) = v3) (hN : 0 ≤ v1 ∧ v1 ≤ 12) (k1 : (0 ≤ t ∧ t < v1) → (0 ≤ k ∧ k ≤ 5) → ((k = 0 ∨ v2 = k ∨ (k = 1 ∧ v2 = 3) ∨ (k = 2 ∧ v2 = 4))) → Post (some (vI v3)) (mk h τ)) (k2 : (0 ≤ t ∧ t < v1) → (0 ≤ k ∧ k ≤ 5) → (¬ ((k = 0 ∨ v2 = k ∨ (k = 1 ∧ v2 = 3) ∨ (k = 2 ∧ v2 = 4)))) → Post (some (vI (-1000000012))) (mk h τ)) (k3 : (0 ≤ t ∧ t < v1) → (¬ (0 ≤ k ∧ k ≤ 5)) → Post (some (vI (-1000000001))) (mk h τ)) (k4 : (¬ (0 ≤ t ∧ t < v1)) → Post (some (vI (-1000000001))) (mk h τ)) : Cj γ mX9_as d 0 0 [vA 123, vI t, vI k] (mk h τ) Post := by
  refine c_of (by decide) (Nat.le_of_ble_eq_true rfl) ?_
  show Aj γ mX9_as d 0 0 Post 0 [(0, vA 123), (1, vI t), (2, vI k)] [] (mk h τ)
  refine a_aload_n (j := 0) dX9_as_0 rfl rfl (Nat.le_of_ble_eq_true rfl) ?_
  refine a_iload_n (j := 1) dX9_as_1 rfl rfl ?_
  refine b_callV (d' := d - 1) (mc' := 0) (ms' := 0) (mc1 := 0) (ms1 := 0) (st := []) (b := 123) [vI t] dX9_as_2 mwX9_isTrain lkX9_152 (by decide) rfl rc_X9 rfl (Nat.le_of_ble_eq_true rfl) (by omega) rfl rfl (c_X9_isTrain (v1 := v1) (by omega)  e1 (show 0 ≤ v1 ∧ v1 ≤ 12 by omega) (fun t2_1 => ?_) (fun t2_1 => ?_))
  · have t2_1 : 0 ≤ t ∧ t < v1 := t2_1
    show Aj γ mX9_as d 0 0 Post 5 [(0, vA 123), (1, vI t), (2, vI k)] [vI 1] (mk h τ)
    refine a_if_eq (tgt := 17) dX9_as_5 (by decide) (fun c => absurd c (by decide)) (fun _ => ?_)
    refine a_iload_n (j := 2) dX9_as_8 rfl rfl ?_
    refine a_iconst dX9_as_9 ⟨by decide, by decide⟩ ?_
    refine a_iconst dX9_as_10 ⟨by decide, by decide⟩ ?_
    refine a_callS (d' := d - 1) (mc' := 0) (ms' := 0) (mc1 := 0) (ms1 := 0) (st := []) [vI k, vI 0, vI 5] dX9_as_11 mwX9_in lkX9_103 rfl (Nat.le_of_ble_eq_true rfl) (by omega) rfl rfl (c_X9_in  (by omega)    (fun t11_2 => ?_) (fun t11_2 => ?_))
    · have t11_2 : 0 ≤ k ∧ k ≤ 5 := t11_2
      show Aj γ mX9_as d 0 0 Post 14 [(0, vA 123), (1, vI t), (2, vI k)] [vI 1] (mk h τ)
      refine a_if_ne (tgt := 20) dX9_as_14 (by decide) (fun _ => ?_) (fun c => absurd c (by decide))
      refine a_aload_n (j := 0) dX9_as_20 rfl rfl (Nat.le_of_ble_eq_true rfl) ?_
      refine a_iload_n (j := 1) dX9_as_21 rfl rfl ?_
      refine a_iconst dX9_as_22 ⟨by decide, by decide⟩ ?_
      refine b_callV (d' := d - 1) (mc' := 0) (ms' := 0) (mc1 := 0) (ms1 := 0) (st := []) (b := 123) [vI t, vI 0] dX9_as_23 mwX9_of lkX9_107 (by decide) rfl rc_X9 rfl (Nat.le_of_ble_eq_true rfl) (by omega) rfl rfl (c_X9_of (v1 := v2) (by omega)  e2 (show 0 ≤ t ∧ t ≤ 11 ∧ 0 ≤ 0 ∧ 0 ≤ 10 by omega) ?_)
      show Aj γ mX9_as d 0 0 Post 26 [(0, vA 123), (1, vI t), (2, vI k)] [vI v2] (mk h τ)
      refine a_iload_n (j := 2) dX9_as_26 rfl rfl ?_
      refine a_callS (d' := d - 1) (mc' := 0) (ms' := 0) (mc1 := 0) (ms1 := 0) (st := []) [vI v2, vI k] dX9_as_27 mwX9_isUnder lkX9_167 rfl (Nat.le_of_ble_eq_true rfl) (by omega) rfl rfl (c_X9_isUnder  (by omega)    (fun t27_3 => ?_) (fun t27_3 => ?_))
      · have t27_3 : (k = 0 ∨ v2 = k ∨ (k = 1 ∧ v2 = 3) ∨ (k = 2 ∧ v2 = 4)) := t27_3
        show Aj γ mX9_as d 0 0 Post 30 [(0, vA 123), (1, vI t), (2, vI k)] [vI 1] (mk h τ)
        refine a_if_eq (tgt := 42) dX9_as_30 (by decide) (fun c => absurd c (by decide)) (fun _ => ?_)
        refine a_aload_n (j := 0) dX9_as_33 rfl rfl (Nat.le_of_ble_eq_true rfl) ?_
        refine a_iload_n (j := 1) dX9_as_34 rfl rfl ?_
        refine a_iconst dX9_as_35 ⟨by decide, by decide⟩ ?_
        refine b_callV (d' := d - 1) (mc' := 0) (ms' := 0) (mc1 := 0) (ms1 := 0) (st := []) (b := 123) [vI t, vI 3] dX9_as_36 mwX9_of lkX9_107 (by decide) rfl rc_X9 rfl (Nat.le_of_ble_eq_true rfl) (by omega) rfl rfl (c_X9_of (v1 := v3) (by omega)  e3 (show 0 ≤ t ∧ t ≤ 11 ∧ 0 ≤ 3 ∧ 3 ≤ 10 by omega) ?_)
        show Aj γ mX9_as d 0 0 Post 39 [(0, vA 123), (1, vI t), (2, vI k)] [vI v3] (mk h τ)
        refine a_goto (tgt := 44) dX9_as_39 (by decide) ?_
        exact a_iret dX9_as_44 rfl (k1 t2_1 t11_2 t27_3)
      · have t27_3 : ¬ ((k = 0 ∨ v2 = k ∨ (k = 1 ∧ v2 = 3) ∨ (k = 2 ∧ v2 = 4))) := t27_3
        show Aj γ mX9_as d 0 0 Post 30 [(0, vA 123), (1, vI t), (2, vI k)] [vI 0] (mk h τ)
        refine a_if_eq (tgt := 42) dX9_as_30 (by decide) (fun _ => ?_) (fun c => absurd c (by decide))
        refine a_ldc (z := (-1000000012)) dX9_as_42 kwX9_171 ⟨by decide, by decide, by decide⟩ ?_
        exact a_iret dX9_as_44 rfl (k2 t2_1 t11_2 t27_3)
    · have t11_2 : ¬ (0 ≤ k ∧ k ≤ 5) := t11_2
      show Aj γ mX9_as d 0 0 Post 14 [(0, vA 123), (1, vI t), (2, vI k)] [vI 0] (mk h τ)
      refine a_if_ne (tgt := 20) dX9_as_14 (by decide) (fun c => absurd c (by decide)) (fun _ => ?_)
      refine a_ldc (z := (-1000000001)) dX9_as_17 kwX9_146 ⟨by decide, by decide, by decide⟩ ?_
      exact a_iret dX9_as_19 rfl (k3 t2_1 t11_2)
  · have t2_1 : ¬ (0 ≤ t ∧ t < v1) := t2_1
    show Aj γ mX9_as d 0 0 Post 5 [(0, vA 123), (1, vI t), (2, vI k)] [vI 0] (mk h τ)
    refine a_if_eq (tgt := 17) dX9_as_5 (by decide) (fun _ => ?_) (fun c => absurd c (by decide))
    refine a_ldc (z := (-1000000001)) dX9_as_17 kwX9_146 ⟨by decide, by decide, by decide⟩ ?_
    exact a_iret dX9_as_19 rfl (k4 t2_1)
set_option maxHeartbeats 8000000 in
theorem c_X9_chances {γ : GT} {d : Nat} {t a b c : Int} {h : Nat → Nat → Int} {τ : List AC} {Post : Option AV → List AC → Prop} (hd : 2 ≤ d) {v1 : Int} (e1 : h 124 5 = v1) (hN : 0 ≤ v1 ∧ v1 ≤ 12) (k1 : (0 ≤ t ∧ t < v1) → ((0 ≤ a ∧ a ≤ 100) ∧ (0 ≤ b ∧ b ≤ 100) ∧ (0 ≤ c ∧ c ≤ 100) ∧ a + b + c ≤ 100) → Post (some (vI (100 - a - b - c))) (mk (up2 (up2 (up2 (up2 (up2 h 124 (Int.toNat ((15 + (11 * t)) + 7)) (((100 - a) - b) - c)) 124 (Int.toNat (((15 + (11 * t)) + 7) + 1)) a) 124 (Int.toNat (((15 + (11 * t)) + 7) + 2)) b) 124 (Int.toNat (((15 + (11 * t)) + 7) + 3)) c) 123 4 0) τ)) (k2 : (0 ≤ t ∧ t < v1) → (¬ ((0 ≤ a ∧ a ≤ 100) ∧ (0 ≤ b ∧ b ≤ 100) ∧ (0 ≤ c ∧ c ≤ 100) ∧ a + b + c ≤ 100)) → Post (some (vI (-1000000001))) (mk h τ)) (k3 : (¬ (0 ≤ t ∧ t < v1)) → Post (some (vI (-1000000001))) (mk h τ)) : Cj γ mX9_chances d 0 0 [vA 123, vI t, vI a, vI b, vI c] (mk h τ) Post := by
  refine c_of (by decide) (Nat.le_of_ble_eq_true rfl) ?_
  show Aj γ mX9_chances d 0 0 Post 0 [(0, vA 123), (1, vI t), (2, vI a), (3, vI b), (4, vI c)] [] (mk h τ)
  refine a_aload_n (j := 0) dX9_chances_0 rfl rfl (Nat.le_of_ble_eq_true rfl) ?_
  refine a_iload_n (j := 1) dX9_chances_1 rfl rfl ?_
  refine b_callV (d' := d - 1) (mc' := 0) (ms' := 0) (mc1 := 0) (ms1 := 0) (st := []) (b := 123) [vI t] dX9_chances_2 mwX9_isTrain lkX9_152 (by decide) rfl rc_X9 rfl (Nat.le_of_ble_eq_true rfl) (by omega) rfl rfl (c_X9_isTrain (v1 := v1) (by omega)  e1 (show 0 ≤ v1 ∧ v1 ≤ 12 by omega) (fun t2_1 => ?_) (fun t2_1 => ?_))
  · have t2_1 : 0 ≤ t ∧ t < v1 := t2_1
    show Aj γ mX9_chances d 0 0 Post 5 [(0, vA 123), (1, vI t), (2, vI a), (3, vI b), (4, vI c)] [vI 1] (mk h τ)
    refine a_if_eq (tgt := 30) dX9_chances_5 (by decide) (fun c => absurd c (by decide)) (fun _ => ?_)
    refine a_iload_n (j := 2) dX9_chances_8 rfl rfl ?_
    refine a_iload_n (j := 3) dX9_chances_9 rfl rfl ?_
    refine a_iload (j := 4) dX9_chances_10 rfl ?_
    refine a_callS (d' := d - 1) (mc' := 0) (ms' := 0) (mc1 := 0) (ms1 := 0) (st := []) [vI a, vI b, vI c] dX9_chances_12 mwX9_areChances lkX9_175 rfl (Nat.le_of_ble_eq_true rfl) (by omega) rfl rfl (c_X9_areChances  (by omega)    (fun t12_2 => ?_) (fun t12_2 => ?_))
    · have t12_2 : (0 ≤ a ∧ a ≤ 100) ∧ (0 ≤ b ∧ b ≤ 100) ∧ (0 ≤ c ∧ c ≤ 100) ∧ a + b + c ≤ 100 := t12_2
      show Aj γ mX9_chances d 0 0 Post 15 [(0, vA 123), (1, vI t), (2, vI a), (3, vI b), (4, vI c)] [vI 1] (mk h τ)
      refine a_if_eq (tgt := 30) dX9_chances_15 (by decide) (fun c => absurd c (by decide)) (fun _ => ?_)
      refine a_aload_n (j := 0) dX9_chances_18 rfl rfl (Nat.le_of_ble_eq_true rfl) ?_
      refine a_iload_n (j := 1) dX9_chances_19 rfl rfl ?_
      refine a_iload_n (j := 2) dX9_chances_20 rfl rfl ?_
      refine a_iload_n (j := 3) dX9_chances_21 rfl rfl ?_
      refine a_iload (j := 4) dX9_chances_22 rfl ?_
      refine b_callV (d' := d - 1) (mc' := 0) (ms' := 0) (mc1 := 0) (ms1 := 0) (st := []) (b := 123) [vI t, vI a, vI b, vI c] dX9_chances_24 mwX9_setsChances lkX9_178 (by decide) rfl rc_X9 rfl (Nat.le_of_ble_eq_true rfl) (by omega) rfl rfl (c_X9_setsChances  (by omega)   (show 0 ≤ t ∧ t ≤ 11 by omega) (show (0 ≤ a ∧ a ≤ 100) ∧ (0 ≤ b ∧ b ≤ 100) ∧ (0 ≤ c ∧ c ≤ 100) by omega) ?_)
      show Aj γ mX9_chances d 0 0 Post 27 [(0, vA 123), (1, vI t), (2, vI a), (3, vI b), (4, vI c)] [vI (100 - a - b - c)] (mk (up2 (up2 (up2 (up2 (up2 h 124 (Int.toNat ((15 + (11 * t)) + 7)) (((100 - a) - b) - c)) 124 (Int.toNat (((15 + (11 * t)) + 7) + 1)) a) 124 (Int.toNat (((15 + (11 * t)) + 7) + 2)) b) 124 (Int.toNat (((15 + (11 * t)) + 7) + 3)) c) 123 4 0) τ)
      refine a_goto (tgt := 32) dX9_chances_27 (by decide) ?_
      exact a_iret dX9_chances_32 rfl (k1 t2_1 t12_2)
    · have t12_2 : ¬ ((0 ≤ a ∧ a ≤ 100) ∧ (0 ≤ b ∧ b ≤ 100) ∧ (0 ≤ c ∧ c ≤ 100) ∧ a + b + c ≤ 100) := t12_2
      show Aj γ mX9_chances d 0 0 Post 15 [(0, vA 123), (1, vI t), (2, vI a), (3, vI b), (4, vI c)] [vI 0] (mk h τ)
      refine a_if_eq (tgt := 30) dX9_chances_15 (by decide) (fun _ => ?_) (fun c => absurd c (by decide))
      refine a_ldc (z := (-1000000001)) dX9_chances_30 kwX9_146 ⟨by decide, by decide, by decide⟩ ?_
      exact a_iret dX9_chances_32 rfl (k2 t2_1 t12_2)
  · have t2_1 : ¬ (0 ≤ t ∧ t < v1) := t2_1
    show Aj γ mX9_chances d 0 0 Post 5 [(0, vA 123), (1, vI t), (2, vI a), (3, vI b), (4, vI c)] [vI 0] (mk h τ)
    refine a_if_eq (tgt := 30) dX9_chances_5 (by decide) (fun _ => ?_) (fun c => absurd c (by decide))
    refine a_ldc (z := (-1000000001)) dX9_chances_30 kwX9_146 ⟨by decide, by decide, by decide⟩ ?_
    exact a_iret dX9_chances_32 rfl (k3 t2_1)
set_option maxHeartbeats 8000000 in
theorem c_X9_train {γ : GT} {d : Nat} {k e l t : Int} {h : Nat → Nat → Int} {τ : List AC} {Post : Option AV → List AC → Prop} (hd : 3 ≤ d) {v1 : Int} (e1 : h 124 4 = v1) {v2 : Int} (e2 : h 124 5 = v2) (hS : 0 ≤ v1 ∧ v1 ≤ 6) (hN : 0 ≤ v2 ∧ v2 ≤ 12) (k1 : (0 ≤ k ∧ k ≤ 5) → (e < 0) → Post (some (vI (-1000000001))) (mk h τ)) (k2 : (0 ≤ k ∧ k ≤ 5) → (¬ e < 0) → (0 ≤ (e / 10) ∧ (e / 10) < v1) → (0 ≤ (e % 10) ∧ (e % 10) < v1) → ((e / 10) = (e % 10)) → Post (some (vI (-1000000001))) (mk h τ)) (k3 : (0 ≤ k ∧ k ≤ 5) → (¬ e < 0) → (0 ≤ (e / 10) ∧ (e / 10) < v1) → (0 ≤ (e % 10) ∧ (e % 10) < v1) → (¬ (e / 10) = (e % 10)) → (0 ≤ l ∧ l ≤ 1439) → (1 ≤ t ∧ t ≤ 600) → (¬ v2 = 12) → Post (some (vI v2)) (mk (up2 (up2 (up2 (up2 (up2 (up2 (up2 (up2 (up2 (up2 (up2 (up2 (up2 (up2 (up2 (up2 (up2 (up2 (up2 (up2 h 124 (Int.toNat ((15 + (11 * v2)) + 0)) 0) 124 (Int.toNat ((15 + (11 * v2)) + 1)) 0) 124 (Int.toNat ((15 + (11 * v2)) + 2)) 0) 124 (Int.toNat ((15 + (11 * v2)) + 3)) 0) 124 (Int.toNat ((15 + (11 * v2)) + 4)) 0) 124 (Int.toNat ((15 + (11 * v2)) + 5)) 0) 124 (Int.toNat ((15 + (11 * v2)) + 6)) 0) 124 (Int.toNat ((15 + (11 * v2)) + 7)) 0) 124 (Int.toNat ((15 + (11 * v2)) + 8)) 0) 124 (Int.toNat ((15 + (11 * v2)) + 9)) 0) 124 (Int.toNat ((15 + (11 * v2)) + 10)) 0) 124 5 (v2 + 1)) 124 (Int.toNat (15 + (11 * v2))) k) 124 (Int.toNat ((15 + (11 * v2)) + 1)) (e / 10)) 124 (Int.toNat ((15 + (11 * v2)) + 2)) (e % 10)) 124 (Int.toNat ((15 + (11 * v2)) + 3)) l) 124 (Int.toNat ((15 + (11 * v2)) + 4)) t) 124 (Int.toNat ((15 + (11 * v2)) + 6)) (-1)) 124 (Int.toNat ((15 + (11 * v2)) + 7)) 100) 123 4 0) τ)) (k4 : (0 ≤ k ∧ k ≤ 5) → (¬ e < 0) → (0 ≤ (e / 10) ∧ (e / 10) < v1) → (0 ≤ (e % 10) ∧ (e % 10) < v1) → (¬ (e / 10) = (e % 10)) → (0 ≤ l ∧ l ≤ 1439) → (1 ≤ t ∧ t ≤ 600) → (v2 = 12) → Post (some (vI (-1000000003))) (mk h τ)) (k5 : (0 ≤ k ∧ k ≤ 5) → (¬ e < 0) → (0 ≤ (e / 10) ∧ (e / 10) < v1) → (0 ≤ (e % 10) ∧ (e % 10) < v1) → (¬ (e / 10) = (e % 10)) → (0 ≤ l ∧ l ≤ 1439) → (¬ (1 ≤ t ∧ t ≤ 600)) → Post (some (vI (-1000000001))) (mk h τ)) (k6 : (0 ≤ k ∧ k ≤ 5) → (¬ e < 0) → (0 ≤ (e / 10) ∧ (e / 10) < v1) → (0 ≤ (e % 10) ∧ (e % 10) < v1) → (¬ (e / 10) = (e % 10)) → (¬ (0 ≤ l ∧ l ≤ 1439)) → Post (some (vI (-1000000001))) (mk h τ)) (k7 : (0 ≤ k ∧ k ≤ 5) → (¬ e < 0) → (0 ≤ (e / 10) ∧ (e / 10) < v1) → (¬ (0 ≤ (e % 10) ∧ (e % 10) < v1)) → Post (some (vI (-1000000001))) (mk h τ)) (k8 : (0 ≤ k ∧ k ≤ 5) → (¬ e < 0) → (¬ (0 ≤ (e / 10) ∧ (e / 10) < v1)) → Post (some (vI (-1000000001))) (mk h τ)) (k9 : (¬ (0 ≤ k ∧ k ≤ 5)) → Post (some (vI (-1000000001))) (mk h τ)) : Cj γ mX9_train d 0 0 [vA 123, vI k, vI e, vI l, vI t] (mk h τ) Post := by
  refine c_of (by decide) (Nat.le_of_ble_eq_true rfl) ?_
  show Aj γ mX9_train d 0 0 Post 0 [(0, vA 123), (1, vI k), (2, vI e), (3, vI l), (4, vI t)] [] (mk h τ)
  refine a_ok fun _ _ hlv => ?_
  have he : inI e := hlv (2, vI e) (by simp)
  unfold inI at he
  refine a_iload_n (j := 1) dX9_train_0 rfl rfl ?_
  refine a_iconst dX9_train_1 ⟨by decide, by decide⟩ ?_
  refine a_iconst dX9_train_2 ⟨by decide, by decide⟩ ?_
  refine a_callS (d' := d - 1) (mc' := 0) (ms' := 0) (mc1 := 0) (ms1 := 0) (st := []) [vI k, vI 0, vI 5] dX9_train_3 mwX9_in lkX9_103 rfl (Nat.le_of_ble_eq_true rfl) (by omega) rfl rfl (c_X9_in  (by omega)    (fun t3_1 => ?_) (fun t3_1 => ?_))
  · have t3_1 : 0 ≤ k ∧ k ≤ 5 := t3_1
    show Aj γ mX9_train d 0 0 Post 6 [(0, vA 123), (1, vI k), (2, vI e), (3, vI l), (4, vI t)] [vI 1] (mk h τ)
    refine a_if_eq (tgt := 50) dX9_train_6 (by decide) (fun c => absurd c (by decide)) (fun _ => ?_)
    refine a_iload_n (j := 2) dX9_train_9 rfl rfl ?_
    refine a_if_lt (tgt := 50) dX9_train_10 (by decide) (fun c10_2 => ?_) (fun c10_2 => ?_)
    · refine a_iconst dX9_train_50 ⟨by decide, by decide⟩ ?_
      refine a_istore (lv' := [(5, vI 0), (0, vA 123), (1, vI k), (2, vI e), (3, vI l), (4, vI t)]) dX9_train_51 (by decide) rfl ?_
      refine a_iload (j := 0) dX9_train_53 rfl ?_
      refine a_if_eq (tgt := 81) dX9_train_55 (by decide) (fun _ => ?_) (fun c => absurd c (by decide))
      refine a_ldc (z := (-1000000001)) dX9_train_81 kwX9_146 ⟨by decide, by decide, by decide⟩ ?_
      exact a_iret dX9_train_83 rfl (k1 t3_1 c10_2)
    · refine a_aload_n (j := 0) dX9_train_13 rfl rfl (Nat.le_of_ble_eq_true rfl) ?_
      refine a_iload_n (j := 2) dX9_train_14 rfl rfl ?_
      refine a_bipush dX9_train_15 ⟨by decide, by decide, by decide⟩ ?_
      refine a_idiv (z := (e / 10)) dX9_train_17 (by omega) (w_divN (by omega) (by omega) (by omega)) ?_
      refine b_callV (d' := d - 1) (mc' := 0) (ms' := 0) (mc1 := 0) (ms1 := 0) (st := []) (b := 123) [vI (e / 10)] dX9_train_18 mwX9_isStop lkX9_148 (by decide) rfl rc_X9 rfl (Nat.le_of_ble_eq_true rfl) (by omega) rfl rfl (c_X9_isStop (v1 := v1) (by omega)  e1 (show 0 ≤ v1 ∧ v1 ≤ 6 by omega) (fun t18_3 => ?_) (fun t18_3 => ?_))
      · have t18_3 : 0 ≤ (e / 10) ∧ (e / 10) < v1 := t18_3
        show Aj γ mX9_train d 0 0 Post 21 [(0, vA 123), (1, vI k), (2, vI e), (3, vI l), (4, vI t)] [vI 1] (mk h τ)
        refine a_if_eq (tgt := 50) dX9_train_21 (by decide) (fun c => absurd c (by decide)) (fun _ => ?_)
        refine a_aload_n (j := 0) dX9_train_24 rfl rfl (Nat.le_of_ble_eq_true rfl) ?_
        refine a_iload_n (j := 2) dX9_train_25 rfl rfl ?_
        refine a_bipush dX9_train_26 ⟨by decide, by decide, by decide⟩ ?_
        refine a_irem (z := (e % 10)) dX9_train_28 (by omega) (w_remN (by omega) (by omega) (by omega)) ?_
        refine b_callV (d' := d - 1) (mc' := 0) (ms' := 0) (mc1 := 0) (ms1 := 0) (st := []) (b := 123) [vI (e % 10)] dX9_train_29 mwX9_isStop lkX9_148 (by decide) rfl rc_X9 rfl (Nat.le_of_ble_eq_true rfl) (by omega) rfl rfl (c_X9_isStop (v1 := v1) (by omega)  e1 (show 0 ≤ v1 ∧ v1 ≤ 6 by omega) (fun t29_4 => ?_) (fun t29_4 => ?_))
        · have t29_4 : 0 ≤ (e % 10) ∧ (e % 10) < v1 := t29_4
          show Aj γ mX9_train d 0 0 Post 32 [(0, vA 123), (1, vI k), (2, vI e), (3, vI l), (4, vI t)] [vI 1] (mk h τ)
          refine a_if_eq (tgt := 50) dX9_train_32 (by decide) (fun c => absurd c (by decide)) (fun _ => ?_)
          refine a_iload_n (j := 2) dX9_train_35 rfl rfl ?_
          refine a_bipush dX9_train_36 ⟨by decide, by decide, by decide⟩ ?_
          refine a_idiv (z := (e / 10)) dX9_train_38 (by omega) (w_divN (by omega) (by omega) (by omega)) ?_
          refine a_iload_n (j := 2) dX9_train_39 rfl rfl ?_
          refine a_bipush dX9_train_40 ⟨by decide, by decide, by decide⟩ ?_
          refine a_irem (z := (e % 10)) dX9_train_42 (by omega) (w_remN (by omega) (by omega) (by omega)) ?_
          refine a_icmp_eq (tgt := 50) dX9_train_43 (by decide) (fun c43_5 => ?_) (fun c43_5 => ?_)
          · refine a_iconst dX9_train_50 ⟨by decide, by decide⟩ ?_
            refine a_istore (lv' := [(5, vI 0), (0, vA 123), (1, vI k), (2, vI e), (3, vI l), (4, vI t)]) dX9_train_51 (by decide) rfl ?_
            refine a_iload (j := 0) dX9_train_53 rfl ?_
            refine a_if_eq (tgt := 81) dX9_train_55 (by decide) (fun _ => ?_) (fun c => absurd c (by decide))
            refine a_ldc (z := (-1000000001)) dX9_train_81 kwX9_146 ⟨by decide, by decide, by decide⟩ ?_
            exact a_iret dX9_train_83 rfl (k2 t3_1 c10_2 t18_3 t29_4 c43_5)
          · refine a_iconst dX9_train_46 ⟨by decide, by decide⟩ ?_
            refine a_goto (tgt := 51) dX9_train_47 (by decide) ?_
            refine a_istore (lv' := [(5, vI 1), (0, vA 123), (1, vI k), (2, vI e), (3, vI l), (4, vI t)]) dX9_train_51 (by decide) rfl ?_
            refine a_iload (j := 0) dX9_train_53 rfl ?_
            refine a_if_eq (tgt := 81) dX9_train_55 (by decide) (fun c => absurd c (by decide)) (fun _ => ?_)
            refine a_iload_n (j := 4) dX9_train_58 rfl rfl ?_
            refine a_iconst dX9_train_59 ⟨by decide, by decide⟩ ?_
            refine a_sipush dX9_train_60 ⟨by decide, by decide, by decide⟩ ?_
            refine a_callS (d' := d - 1) (mc' := 0) (ms' := 0) (mc1 := 0) (ms1 := 0) (st := []) [vI l, vI 0, vI 1439] dX9_train_63 mwX9_in lkX9_103 rfl (Nat.le_of_ble_eq_true rfl) (by omega) rfl rfl (c_X9_in  (by omega)    (fun t63_6 => ?_) (fun t63_6 => ?_))
            · have t63_6 : 0 ≤ l ∧ l ≤ 1439 := t63_6
              show Aj γ mX9_train d 0 0 Post 66 [(5, vI 1), (0, vA 123), (1, vI k), (2, vI e), (3, vI l), (4, vI t)] [vI 1] (mk h τ)
              refine a_if_eq (tgt := 81) dX9_train_66 (by decide) (fun c => absurd c (by decide)) (fun _ => ?_)
              refine a_iload (j := 5) dX9_train_69 rfl ?_
              refine a_iconst dX9_train_71 ⟨by decide, by decide⟩ ?_
              refine a_sipush dX9_train_72 ⟨by decide, by decide, by decide⟩ ?_
              refine a_callS (d' := d - 1) (mc' := 0) (ms' := 0) (mc1 := 0) (ms1 := 0) (st := []) [vI t, vI 1, vI 600] dX9_train_75 mwX9_in lkX9_103 rfl (Nat.le_of_ble_eq_true rfl) (by omega) rfl rfl (c_X9_in  (by omega)    (fun t75_7 => ?_) (fun t75_7 => ?_))
              · have t75_7 : 1 ≤ t ∧ t ≤ 600 := t75_7
                show Aj γ mX9_train d 0 0 Post 78 [(5, vI 1), (0, vA 123), (1, vI k), (2, vI e), (3, vI l), (4, vI t)] [vI 1] (mk h τ)
                refine a_if_ne (tgt := 84) dX9_train_78 (by decide) (fun _ => ?_) (fun c => absurd c (by decide))
                refine a_aload_n (j := 1) dX9_train_84 rfl rfl (Nat.le_of_ble_eq_true rfl) ?_
                refine b_getp (a := 123) (p := 124) dX9_train_85 fwX9_9 (by decide) rfl (by decide) rfl rfl ?_
                refine a_iconst dX9_train_88 ⟨by decide, by decide⟩ ?_
                refine b_iaload (a := 124) (z := v2) 5 dX9_train_89 (by decide) rfl rfl (by decide) rfl e2 (fun r89_8 => ?_)
                refine a_bipush dX9_train_90 ⟨by decide, by decide, by decide⟩ ?_
                refine a_icmp_ne (tgt := 98) dX9_train_92 (by decide) (fun c92_9 => ?_) (fun c92_9 => ?_)
                · refine a_aload_n (j := 1) dX9_train_98 rfl rfl (Nat.le_of_ble_eq_true rfl) ?_
                  refine b_getp (a := 123) (p := 124) dX9_train_99 fwX9_9 (by decide) rfl (by decide) rfl rfl ?_
                  refine a_iconst dX9_train_102 ⟨by decide, by decide⟩ ?_
                  refine b_iaload (a := 124) (z := v2) 5 dX9_train_103 (by decide) rfl rfl (by decide) rfl e2 (fun r103_10 => ?_)
                  refine a_istore (lv' := [(6, vI v2), (5, vI 1), (0, vA 123), (1, vI k), (2, vI e), (3, vI l), (4, vI t)]) dX9_train_104 (by decide) rfl ?_
                  refine a_iconst dX9_train_106 ⟨by decide, by decide⟩ ?_
                  refine a_istore (lv' := [(7, vI 0), (6, vI v2), (5, vI 1), (0, vA 123), (1, vI k), (2, vI e), (3, vI l), (4, vI t)]) dX9_train_107 (by decide) rfl ?_
                  refine a_iload (j := 0) dX9_train_109 rfl ?_
                  refine a_bipush dX9_train_111 ⟨by decide, by decide, by decide⟩ ?_
                  refine a_icmp_ge (tgt := 139) dX9_train_113 (by decide) (fun c => absurd c (by decide)) (fun _ => ?_)
                  refine a_aload_n (j := 3) dX9_train_116 rfl rfl (Nat.le_of_ble_eq_true rfl) ?_
                  refine b_getp (a := 123) (p := 124) dX9_train_117 fwX9_9 (by decide) rfl (by decide) rfl rfl ?_
                  refine a_bipush dX9_train_120 ⟨by decide, by decide, by decide⟩ ?_
                  refine a_bipush dX9_train_122 ⟨by decide, by decide, by decide⟩ ?_
                  refine a_iload (j := 1) dX9_train_124 rfl ?_
                  refine a_imul (z := (11 * v2)) dX9_train_126 (w_ok (by omega) (by omega)) ?_
                  refine a_iadd (z := (15 + (11 * v2))) dX9_train_127 (w_ok (by omega) (by omega)) ?_
                  refine a_iload (j := 0) dX9_train_128 rfl ?_
                  refine a_iadd (z := (15 + (11 * v2)) + 0) dX9_train_130 (w_ok (by omega) (by omega)) ?_
                  refine a_iconst dX9_train_131 ⟨by decide, by decide⟩ ?_
                  refine b_iastore (a := 124) (Int.toNat ((15 + (11 * v2)) + 0)) dX9_train_132 (by decide) rfl (by omega) (by omega) (sp_nil rfl _) ?_
                  refine a_iinc (j := 0) (z' := 1) (lv' := [(7, vI 1), (6, vI v2), (5, vI 1), (0, vA 123), (1, vI k), (2, vI e), (3, vI l), (4, vI t)]) dX9_train_133 rfl (w_ok (by omega) (by omega)) (by decide) rfl ?_
                  refine a_goto (tgt := 109) dX9_train_136 (by decide) ?_
                  refine a_iload (j := 0) dX9_train_109 rfl ?_
                  refine a_bipush dX9_train_111 ⟨by decide, by decide, by decide⟩ ?_
                  refine a_icmp_ge (tgt := 139) dX9_train_113 (by decide) (fun c => absurd c (by decide)) (fun _ => ?_)
                  refine a_aload_n (j := 3) dX9_train_116 rfl rfl (Nat.le_of_ble_eq_true rfl) ?_
                  refine b_getp (a := 123) (p := 124) dX9_train_117 fwX9_9 (by decide) rfl (by decide) rfl rfl ?_
                  refine a_bipush dX9_train_120 ⟨by decide, by decide, by decide⟩ ?_
                  refine a_bipush dX9_train_122 ⟨by decide, by decide, by decide⟩ ?_
                  refine a_iload (j := 1) dX9_train_124 rfl ?_
                  refine a_imul (z := (11 * v2)) dX9_train_126 (w_ok (by omega) (by omega)) ?_
                  refine a_iadd (z := (15 + (11 * v2))) dX9_train_127 (w_ok (by omega) (by omega)) ?_
                  refine a_iload (j := 0) dX9_train_128 rfl ?_
                  refine a_iadd (z := ((15 + (11 * v2)) + 1)) dX9_train_130 (w_ok (by omega) (by omega)) ?_
                  refine a_iconst dX9_train_131 ⟨by decide, by decide⟩ ?_
                  refine b_iastore (a := 124) (Int.toNat ((15 + (11 * v2)) + 1)) dX9_train_132 (by decide) rfl (by omega) (by omega) (sp_nil rfl _) ?_
                  refine a_iinc (j := 0) (z' := 2) (lv' := [(7, vI 2), (6, vI v2), (5, vI 1), (0, vA 123), (1, vI k), (2, vI e), (3, vI l), (4, vI t)]) dX9_train_133 rfl (w_ok (by omega) (by omega)) (by decide) rfl ?_
                  refine a_goto (tgt := 109) dX9_train_136 (by decide) ?_
                  refine a_iload (j := 0) dX9_train_109 rfl ?_
                  refine a_bipush dX9_train_111 ⟨by decide, by decide, by decide⟩ ?_
                  refine a_icmp_ge (tgt := 139) dX9_train_113 (by decide) (fun c => absurd c (by decide)) (fun _ => ?_)
                  refine a_aload_n (j := 3) dX9_train_116 rfl rfl (Nat.le_of_ble_eq_true rfl) ?_
                  refine b_getp (a := 123) (p := 124) dX9_train_117 fwX9_9 (by decide) rfl (by decide) rfl rfl ?_
                  refine a_bipush dX9_train_120 ⟨by decide, by decide, by decide⟩ ?_
                  refine a_bipush dX9_train_122 ⟨by decide, by decide, by decide⟩ ?_
                  refine a_iload (j := 1) dX9_train_124 rfl ?_
                  refine a_imul (z := (11 * v2)) dX9_train_126 (w_ok (by omega) (by omega)) ?_
                  refine a_iadd (z := (15 + (11 * v2))) dX9_train_127 (w_ok (by omega) (by omega)) ?_
                  refine a_iload (j := 0) dX9_train_128 rfl ?_
                  refine a_iadd (z := ((15 + (11 * v2)) + 2)) dX9_train_130 (w_ok (by omega) (by omega)) ?_
                  refine a_iconst dX9_train_131 ⟨by decide, by decide⟩ ?_
                  refine b_iastore (a := 124) (Int.toNat ((15 + (11 * v2)) + 2)) dX9_train_132 (by decide) rfl (by omega) (by omega) (sp_nil rfl _) ?_
                  refine a_iinc (j := 0) (z' := 3) (lv' := [(7, vI 3), (6, vI v2), (5, vI 1), (0, vA 123), (1, vI k), (2, vI e), (3, vI l), (4, vI t)]) dX9_train_133 rfl (w_ok (by omega) (by omega)) (by decide) rfl ?_
                  refine a_goto (tgt := 109) dX9_train_136 (by decide) ?_
                  refine a_iload (j := 0) dX9_train_109 rfl ?_
                  refine a_bipush dX9_train_111 ⟨by decide, by decide, by decide⟩ ?_
                  refine a_icmp_ge (tgt := 139) dX9_train_113 (by decide) (fun c => absurd c (by decide)) (fun _ => ?_)
                  refine a_aload_n (j := 3) dX9_train_116 rfl rfl (Nat.le_of_ble_eq_true rfl) ?_
                  refine b_getp (a := 123) (p := 124) dX9_train_117 fwX9_9 (by decide) rfl (by decide) rfl rfl ?_
                  refine a_bipush dX9_train_120 ⟨by decide, by decide, by decide⟩ ?_
                  refine a_bipush dX9_train_122 ⟨by decide, by decide, by decide⟩ ?_
                  refine a_iload (j := 1) dX9_train_124 rfl ?_
                  refine a_imul (z := (11 * v2)) dX9_train_126 (w_ok (by omega) (by omega)) ?_
                  refine a_iadd (z := (15 + (11 * v2))) dX9_train_127 (w_ok (by omega) (by omega)) ?_
                  refine a_iload (j := 0) dX9_train_128 rfl ?_
                  refine a_iadd (z := ((15 + (11 * v2)) + 3)) dX9_train_130 (w_ok (by omega) (by omega)) ?_
                  refine a_iconst dX9_train_131 ⟨by decide, by decide⟩ ?_
                  refine b_iastore (a := 124) (Int.toNat ((15 + (11 * v2)) + 3)) dX9_train_132 (by decide) rfl (by omega) (by omega) (sp_nil rfl _) ?_
                  refine a_iinc (j := 0) (z' := 4) (lv' := [(7, vI 4), (6, vI v2), (5, vI 1), (0, vA 123), (1, vI k), (2, vI e), (3, vI l), (4, vI t)]) dX9_train_133 rfl (w_ok (by omega) (by omega)) (by decide) rfl ?_
                  refine a_goto (tgt := 109) dX9_train_136 (by decide) ?_
                  refine a_iload (j := 0) dX9_train_109 rfl ?_
                  refine a_bipush dX9_train_111 ⟨by decide, by decide, by decide⟩ ?_
                  refine a_icmp_ge (tgt := 139) dX9_train_113 (by decide) (fun c => absurd c (by decide)) (fun _ => ?_)
                  refine a_aload_n (j := 3) dX9_train_116 rfl rfl (Nat.le_of_ble_eq_true rfl) ?_
                  refine b_getp (a := 123) (p := 124) dX9_train_117 fwX9_9 (by decide) rfl (by decide) rfl rfl ?_
                  refine a_bipush dX9_train_120 ⟨by decide, by decide, by decide⟩ ?_
                  refine a_bipush dX9_train_122 ⟨by decide, by decide, by decide⟩ ?_
                  refine a_iload (j := 1) dX9_train_124 rfl ?_
                  refine a_imul (z := (11 * v2)) dX9_train_126 (w_ok (by omega) (by omega)) ?_
                  refine a_iadd (z := (15 + (11 * v2))) dX9_train_127 (w_ok (by omega) (by omega)) ?_
                  refine a_iload (j := 0) dX9_train_128 rfl ?_
                  refine a_iadd (z := ((15 + (11 * v2)) + 4)) dX9_train_130 (w_ok (by omega) (by omega)) ?_
                  refine a_iconst dX9_train_131 ⟨by decide, by decide⟩ ?_
                  refine b_iastore (a := 124) (Int.toNat ((15 + (11 * v2)) + 4)) dX9_train_132 (by decide) rfl (by omega) (by omega) (sp_nil rfl _) ?_
                  refine a_iinc (j := 0) (z' := 5) (lv' := [(7, vI 5), (6, vI v2), (5, vI 1), (0, vA 123), (1, vI k), (2, vI e), (3, vI l), (4, vI t)]) dX9_train_133 rfl (w_ok (by omega) (by omega)) (by decide) rfl ?_
                  refine a_goto (tgt := 109) dX9_train_136 (by decide) ?_
                  refine a_iload (j := 0) dX9_train_109 rfl ?_
                  refine a_bipush dX9_train_111 ⟨by decide, by decide, by decide⟩ ?_
                  refine a_icmp_ge (tgt := 139) dX9_train_113 (by decide) (fun c => absurd c (by decide)) (fun _ => ?_)
                  refine a_aload_n (j := 3) dX9_train_116 rfl rfl (Nat.le_of_ble_eq_true rfl) ?_
                  refine b_getp (a := 123) (p := 124) dX9_train_117 fwX9_9 (by decide) rfl (by decide) rfl rfl ?_
                  refine a_bipush dX9_train_120 ⟨by decide, by decide, by decide⟩ ?_
                  refine a_bipush dX9_train_122 ⟨by decide, by decide, by decide⟩ ?_
                  refine a_iload (j := 1) dX9_train_124 rfl ?_
                  refine a_imul (z := (11 * v2)) dX9_train_126 (w_ok (by omega) (by omega)) ?_
                  refine a_iadd (z := (15 + (11 * v2))) dX9_train_127 (w_ok (by omega) (by omega)) ?_
                  refine a_iload (j := 0) dX9_train_128 rfl ?_
                  refine a_iadd (z := ((15 + (11 * v2)) + 5)) dX9_train_130 (w_ok (by omega) (by omega)) ?_
                  refine a_iconst dX9_train_131 ⟨by decide, by decide⟩ ?_
                  refine b_iastore (a := 124) (Int.toNat ((15 + (11 * v2)) + 5)) dX9_train_132 (by decide) rfl (by omega) (by omega) (sp_nil rfl _) ?_
                  refine a_iinc (j := 0) (z' := 6) (lv' := [(7, vI 6), (6, vI v2), (5, vI 1), (0, vA 123), (1, vI k), (2, vI e), (3, vI l), (4, vI t)]) dX9_train_133 rfl (w_ok (by omega) (by omega)) (by decide) rfl ?_
                  refine a_goto (tgt := 109) dX9_train_136 (by decide) ?_
                  refine a_iload (j := 0) dX9_train_109 rfl ?_
                  refine a_bipush dX9_train_111 ⟨by decide, by decide, by decide⟩ ?_
                  refine a_icmp_ge (tgt := 139) dX9_train_113 (by decide) (fun c => absurd c (by decide)) (fun _ => ?_)
                  refine a_aload_n (j := 3) dX9_train_116 rfl rfl (Nat.le_of_ble_eq_true rfl) ?_
                  refine b_getp (a := 123) (p := 124) dX9_train_117 fwX9_9 (by decide) rfl (by decide) rfl rfl ?_
                  refine a_bipush dX9_train_120 ⟨by decide, by decide, by decide⟩ ?_
                  refine a_bipush dX9_train_122 ⟨by decide, by decide, by decide⟩ ?_
                  refine a_iload (j := 1) dX9_train_124 rfl ?_
                  refine a_imul (z := (11 * v2)) dX9_train_126 (w_ok (by omega) (by omega)) ?_
                  refine a_iadd (z := (15 + (11 * v2))) dX9_train_127 (w_ok (by omega) (by omega)) ?_
                  refine a_iload (j := 0) dX9_train_128 rfl ?_
                  refine a_iadd (z := ((15 + (11 * v2)) + 6)) dX9_train_130 (w_ok (by omega) (by omega)) ?_
                  refine a_iconst dX9_train_131 ⟨by decide, by decide⟩ ?_
                  refine b_iastore (a := 124) (Int.toNat ((15 + (11 * v2)) + 6)) dX9_train_132 (by decide) rfl (by omega) (by omega) (sp_nil rfl _) ?_
                  refine a_iinc (j := 0) (z' := 7) (lv' := [(7, vI 7), (6, vI v2), (5, vI 1), (0, vA 123), (1, vI k), (2, vI e), (3, vI l), (4, vI t)]) dX9_train_133 rfl (w_ok (by omega) (by omega)) (by decide) rfl ?_
                  refine a_goto (tgt := 109) dX9_train_136 (by decide) ?_
                  refine a_iload (j := 0) dX9_train_109 rfl ?_
                  refine a_bipush dX9_train_111 ⟨by decide, by decide, by decide⟩ ?_
                  refine a_icmp_ge (tgt := 139) dX9_train_113 (by decide) (fun c => absurd c (by decide)) (fun _ => ?_)
                  refine a_aload_n (j := 3) dX9_train_116 rfl rfl (Nat.le_of_ble_eq_true rfl) ?_
                  refine b_getp (a := 123) (p := 124) dX9_train_117 fwX9_9 (by decide) rfl (by decide) rfl rfl ?_
                  refine a_bipush dX9_train_120 ⟨by decide, by decide, by decide⟩ ?_
                  refine a_bipush dX9_train_122 ⟨by decide, by decide, by decide⟩ ?_
                  refine a_iload (j := 1) dX9_train_124 rfl ?_
                  refine a_imul (z := (11 * v2)) dX9_train_126 (w_ok (by omega) (by omega)) ?_
                  refine a_iadd (z := (15 + (11 * v2))) dX9_train_127 (w_ok (by omega) (by omega)) ?_
                  refine a_iload (j := 0) dX9_train_128 rfl ?_
                  refine a_iadd (z := ((15 + (11 * v2)) + 7)) dX9_train_130 (w_ok (by omega) (by omega)) ?_
                  refine a_iconst dX9_train_131 ⟨by decide, by decide⟩ ?_
                  refine b_iastore (a := 124) (Int.toNat ((15 + (11 * v2)) + 7)) dX9_train_132 (by decide) rfl (by omega) (by omega) (sp_nil rfl _) ?_
                  refine a_iinc (j := 0) (z' := 8) (lv' := [(7, vI 8), (6, vI v2), (5, vI 1), (0, vA 123), (1, vI k), (2, vI e), (3, vI l), (4, vI t)]) dX9_train_133 rfl (w_ok (by omega) (by omega)) (by decide) rfl ?_
                  refine a_goto (tgt := 109) dX9_train_136 (by decide) ?_
                  refine a_iload (j := 0) dX9_train_109 rfl ?_
                  refine a_bipush dX9_train_111 ⟨by decide, by decide, by decide⟩ ?_
                  refine a_icmp_ge (tgt := 139) dX9_train_113 (by decide) (fun c => absurd c (by decide)) (fun _ => ?_)
                  refine a_aload_n (j := 3) dX9_train_116 rfl rfl (Nat.le_of_ble_eq_true rfl) ?_
                  refine b_getp (a := 123) (p := 124) dX9_train_117 fwX9_9 (by decide) rfl (by decide) rfl rfl ?_
                  refine a_bipush dX9_train_120 ⟨by decide, by decide, by decide⟩ ?_
                  refine a_bipush dX9_train_122 ⟨by decide, by decide, by decide⟩ ?_
                  refine a_iload (j := 1) dX9_train_124 rfl ?_
                  refine a_imul (z := (11 * v2)) dX9_train_126 (w_ok (by omega) (by omega)) ?_
                  refine a_iadd (z := (15 + (11 * v2))) dX9_train_127 (w_ok (by omega) (by omega)) ?_
                  refine a_iload (j := 0) dX9_train_128 rfl ?_
                  refine a_iadd (z := ((15 + (11 * v2)) + 8)) dX9_train_130 (w_ok (by omega) (by omega)) ?_
                  refine a_iconst dX9_train_131 ⟨by decide, by decide⟩ ?_
                  refine b_iastore (a := 124) (Int.toNat ((15 + (11 * v2)) + 8)) dX9_train_132 (by decide) rfl (by omega) (by omega) (sp_nil rfl _) ?_
                  refine a_iinc (j := 0) (z' := 9) (lv' := [(7, vI 9), (6, vI v2), (5, vI 1), (0, vA 123), (1, vI k), (2, vI e), (3, vI l), (4, vI t)]) dX9_train_133 rfl (w_ok (by omega) (by omega)) (by decide) rfl ?_
                  refine a_goto (tgt := 109) dX9_train_136 (by decide) ?_
                  refine a_iload (j := 0) dX9_train_109 rfl ?_
                  refine a_bipush dX9_train_111 ⟨by decide, by decide, by decide⟩ ?_
                  refine a_icmp_ge (tgt := 139) dX9_train_113 (by decide) (fun c => absurd c (by decide)) (fun _ => ?_)
                  refine a_aload_n (j := 3) dX9_train_116 rfl rfl (Nat.le_of_ble_eq_true rfl) ?_
                  refine b_getp (a := 123) (p := 124) dX9_train_117 fwX9_9 (by decide) rfl (by decide) rfl rfl ?_
                  refine a_bipush dX9_train_120 ⟨by decide, by decide, by decide⟩ ?_
                  refine a_bipush dX9_train_122 ⟨by decide, by decide, by decide⟩ ?_
                  refine a_iload (j := 1) dX9_train_124 rfl ?_
                  refine a_imul (z := (11 * v2)) dX9_train_126 (w_ok (by omega) (by omega)) ?_
                  refine a_iadd (z := (15 + (11 * v2))) dX9_train_127 (w_ok (by omega) (by omega)) ?_
                  refine a_iload (j := 0) dX9_train_128 rfl ?_
                  refine a_iadd (z := ((15 + (11 * v2)) + 9)) dX9_train_130 (w_ok (by omega) (by omega)) ?_
                  refine a_iconst dX9_train_131 ⟨by decide, by decide⟩ ?_
                  refine b_iastore (a := 124) (Int.toNat ((15 + (11 * v2)) + 9)) dX9_train_132 (by decide) rfl (by omega) (by omega) (sp_nil rfl _) ?_
                  refine a_iinc (j := 0) (z' := 10) (lv' := [(7, vI 10), (6, vI v2), (5, vI 1), (0, vA 123), (1, vI k), (2, vI e), (3, vI l), (4, vI t)]) dX9_train_133 rfl (w_ok (by omega) (by omega)) (by decide) rfl ?_
                  refine a_goto (tgt := 109) dX9_train_136 (by decide) ?_
                  refine a_iload (j := 0) dX9_train_109 rfl ?_
                  refine a_bipush dX9_train_111 ⟨by decide, by decide, by decide⟩ ?_
                  refine a_icmp_ge (tgt := 139) dX9_train_113 (by decide) (fun c => absurd c (by decide)) (fun _ => ?_)
                  refine a_aload_n (j := 3) dX9_train_116 rfl rfl (Nat.le_of_ble_eq_true rfl) ?_
                  refine b_getp (a := 123) (p := 124) dX9_train_117 fwX9_9 (by decide) rfl (by decide) rfl rfl ?_
                  refine a_bipush dX9_train_120 ⟨by decide, by decide, by decide⟩ ?_
                  refine a_bipush dX9_train_122 ⟨by decide, by decide, by decide⟩ ?_
                  refine a_iload (j := 1) dX9_train_124 rfl ?_
                  refine a_imul (z := (11 * v2)) dX9_train_126 (w_ok (by omega) (by omega)) ?_
                  refine a_iadd (z := (15 + (11 * v2))) dX9_train_127 (w_ok (by omega) (by omega)) ?_
                  refine a_iload (j := 0) dX9_train_128 rfl ?_
                  refine a_iadd (z := ((15 + (11 * v2)) + 10)) dX9_train_130 (w_ok (by omega) (by omega)) ?_
                  refine a_iconst dX9_train_131 ⟨by decide, by decide⟩ ?_
                  refine b_iastore (a := 124) (Int.toNat ((15 + (11 * v2)) + 10)) dX9_train_132 (by decide) rfl (by omega) (by omega) (sp_nil rfl _) ?_
                  refine a_iinc (j := 0) (z' := 11) (lv' := [(7, vI 11), (6, vI v2), (5, vI 1), (0, vA 123), (1, vI k), (2, vI e), (3, vI l), (4, vI t)]) dX9_train_133 rfl (w_ok (by omega) (by omega)) (by decide) rfl ?_
                  refine a_goto (tgt := 109) dX9_train_136 (by decide) ?_
                  refine a_iload (j := 0) dX9_train_109 rfl ?_
                  refine a_bipush dX9_train_111 ⟨by decide, by decide, by decide⟩ ?_
                  refine a_icmp_ge (tgt := 139) dX9_train_113 (by decide) (fun _ => ?_) (fun c => absurd c (by decide))
                  refine a_aload_n (j := 3) dX9_train_139 rfl rfl (Nat.le_of_ble_eq_true rfl) ?_
                  refine b_getp (a := 123) (p := 124) dX9_train_140 fwX9_9 (by decide) rfl (by decide) rfl rfl ?_
                  refine a_iconst dX9_train_143 ⟨by decide, by decide⟩ ?_
                  refine a_dup2 dX9_train_144 (fun h => nomatch h) (fun h => nomatch h) ?_
                  refine b_iaload (a := 124) (z := v2) 5 dX9_train_145 (by decide) rfl rfl (by decide) rfl ((up2_ne (by omega)).trans ((up2_ne (by omega)).trans ((up2_ne (by omega)).trans ((up2_ne (by omega)).trans ((up2_ne (by omega)).trans ((up2_ne (by omega)).trans ((up2_ne (by omega)).trans ((up2_ne (by omega)).trans ((up2_ne (by omega)).trans ((up2_ne (by omega)).trans ((up2_ne (by omega)).trans e2))))))))))) (fun r145_11 => ?_)
                  refine a_iconst dX9_train_146 ⟨by decide, by decide⟩ ?_
                  refine a_iadd (z := (v2 + 1)) dX9_train_147 (w_ok (by omega) (by omega)) ?_
                  refine b_iastore (a := 124) 5 dX9_train_148 (by decide) rfl rfl (by decide) rfl ?_
                  refine a_aload_n (j := 3) dX9_train_149 rfl rfl (Nat.le_of_ble_eq_true rfl) ?_
                  refine b_getp (a := 123) (p := 124) dX9_train_150 fwX9_9 (by decide) rfl (by decide) rfl rfl ?_
                  refine a_bipush dX9_train_153 ⟨by decide, by decide, by decide⟩ ?_
                  refine a_bipush dX9_train_155 ⟨by decide, by decide, by decide⟩ ?_
                  refine a_iload (j := 1) dX9_train_157 rfl ?_
                  refine a_imul (z := (11 * v2)) dX9_train_159 (w_ok (by omega) (by omega)) ?_
                  refine a_iadd (z := (15 + (11 * v2))) dX9_train_160 (w_ok (by omega) (by omega)) ?_
                  refine a_iload_n (j := 4) dX9_train_161 rfl rfl ?_
                  refine b_iastore (a := 124) (Int.toNat (15 + (11 * v2))) dX9_train_162 (by decide) rfl (by omega) (by omega) (sp_nil rfl _) ?_
                  refine a_aload_n (j := 3) dX9_train_163 rfl rfl (Nat.le_of_ble_eq_true rfl) ?_
                  refine b_getp (a := 123) (p := 124) dX9_train_164 fwX9_9 (by decide) rfl (by decide) rfl rfl ?_
                  refine a_bipush dX9_train_167 ⟨by decide, by decide, by decide⟩ ?_
                  refine a_bipush dX9_train_169 ⟨by decide, by decide, by decide⟩ ?_
                  refine a_iload (j := 1) dX9_train_171 rfl ?_
                  refine a_imul (z := (11 * v2)) dX9_train_173 (w_ok (by omega) (by omega)) ?_
                  refine a_iadd (z := (15 + (11 * v2))) dX9_train_174 (w_ok (by omega) (by omega)) ?_
                  refine a_iconst dX9_train_175 ⟨by decide, by decide⟩ ?_
                  refine a_iadd (z := ((15 + (11 * v2)) + 1)) dX9_train_176 (w_ok (by omega) (by omega)) ?_
                  refine a_iload_n (j := 5) dX9_train_177 rfl rfl ?_
                  refine a_bipush dX9_train_178 ⟨by decide, by decide, by decide⟩ ?_
                  refine a_idiv (z := (e / 10)) dX9_train_180 (by omega) (w_divN (by omega) (by omega) (by omega)) ?_
                  refine b_iastore (a := 124) (Int.toNat ((15 + (11 * v2)) + 1)) dX9_train_181 (by decide) rfl (by omega) (by omega) (sp_nil rfl _) ?_
                  refine a_aload_n (j := 3) dX9_train_182 rfl rfl (Nat.le_of_ble_eq_true rfl) ?_
                  refine b_getp (a := 123) (p := 124) dX9_train_183 fwX9_9 (by decide) rfl (by decide) rfl rfl ?_
                  refine a_bipush dX9_train_186 ⟨by decide, by decide, by decide⟩ ?_
                  refine a_bipush dX9_train_188 ⟨by decide, by decide, by decide⟩ ?_
                  refine a_iload (j := 1) dX9_train_190 rfl ?_
                  refine a_imul (z := (11 * v2)) dX9_train_192 (w_ok (by omega) (by omega)) ?_
                  refine a_iadd (z := (15 + (11 * v2))) dX9_train_193 (w_ok (by omega) (by omega)) ?_
                  refine a_iconst dX9_train_194 ⟨by decide, by decide⟩ ?_
                  refine a_iadd (z := ((15 + (11 * v2)) + 2)) dX9_train_195 (w_ok (by omega) (by omega)) ?_
                  refine a_iload_n (j := 5) dX9_train_196 rfl rfl ?_
                  refine a_bipush dX9_train_197 ⟨by decide, by decide, by decide⟩ ?_
                  refine a_irem (z := (e % 10)) dX9_train_199 (by omega) (w_remN (by omega) (by omega) (by omega)) ?_
                  refine b_iastore (a := 124) (Int.toNat ((15 + (11 * v2)) + 2)) dX9_train_200 (by decide) rfl (by omega) (by omega) (sp_nil rfl _) ?_
                  refine a_aload_n (j := 3) dX9_train_201 rfl rfl (Nat.le_of_ble_eq_true rfl) ?_
                  refine b_getp (a := 123) (p := 124) dX9_train_202 fwX9_9 (by decide) rfl (by decide) rfl rfl ?_
                  refine a_bipush dX9_train_205 ⟨by decide, by decide, by decide⟩ ?_
                  refine a_bipush dX9_train_207 ⟨by decide, by decide, by decide⟩ ?_
                  refine a_iload (j := 1) dX9_train_209 rfl ?_
                  refine a_imul (z := (11 * v2)) dX9_train_211 (w_ok (by omega) (by omega)) ?_
                  refine a_iadd (z := (15 + (11 * v2))) dX9_train_212 (w_ok (by omega) (by omega)) ?_
                  refine a_iconst dX9_train_213 ⟨by decide, by decide⟩ ?_
                  refine a_iadd (z := ((15 + (11 * v2)) + 3)) dX9_train_214 (w_ok (by omega) (by omega)) ?_
                  refine a_iload_n (j := 6) dX9_train_215 rfl rfl ?_
                  refine b_iastore (a := 124) (Int.toNat ((15 + (11 * v2)) + 3)) dX9_train_216 (by decide) rfl (by omega) (by omega) (sp_nil rfl _) ?_
                  refine a_aload_n (j := 3) dX9_train_217 rfl rfl (Nat.le_of_ble_eq_true rfl) ?_
                  refine b_getp (a := 123) (p := 124) dX9_train_218 fwX9_9 (by decide) rfl (by decide) rfl rfl ?_
                  refine a_bipush dX9_train_221 ⟨by decide, by decide, by decide⟩ ?_
                  refine a_bipush dX9_train_223 ⟨by decide, by decide, by decide⟩ ?_
                  refine a_iload (j := 1) dX9_train_225 rfl ?_
                  refine a_imul (z := (11 * v2)) dX9_train_227 (w_ok (by omega) (by omega)) ?_
                  refine a_iadd (z := (15 + (11 * v2))) dX9_train_228 (w_ok (by omega) (by omega)) ?_
                  refine a_iconst dX9_train_229 ⟨by decide, by decide⟩ ?_
                  refine a_iadd (z := ((15 + (11 * v2)) + 4)) dX9_train_230 (w_ok (by omega) (by omega)) ?_
                  refine a_iload (j := 7) dX9_train_231 rfl ?_
                  refine b_iastore (a := 124) (Int.toNat ((15 + (11 * v2)) + 4)) dX9_train_233 (by decide) rfl (by omega) (by omega) (sp_nil rfl _) ?_
                  refine a_aload_n (j := 3) dX9_train_234 rfl rfl (Nat.le_of_ble_eq_true rfl) ?_
                  refine b_getp (a := 123) (p := 124) dX9_train_235 fwX9_9 (by decide) rfl (by decide) rfl rfl ?_
                  refine a_bipush dX9_train_238 ⟨by decide, by decide, by decide⟩ ?_
                  refine a_bipush dX9_train_240 ⟨by decide, by decide, by decide⟩ ?_
                  refine a_iload (j := 1) dX9_train_242 rfl ?_
                  refine a_imul (z := (11 * v2)) dX9_train_244 (w_ok (by omega) (by omega)) ?_
                  refine a_iadd (z := (15 + (11 * v2))) dX9_train_245 (w_ok (by omega) (by omega)) ?_
                  refine a_bipush dX9_train_246 ⟨by decide, by decide, by decide⟩ ?_
                  refine a_iadd (z := ((15 + (11 * v2)) + 6)) dX9_train_248 (w_ok (by omega) (by omega)) ?_
                  refine a_iconst dX9_train_249 ⟨by decide, by decide⟩ ?_
                  refine b_iastore (a := 124) (Int.toNat ((15 + (11 * v2)) + 6)) dX9_train_250 (by decide) rfl (by omega) (by omega) (sp_nil rfl _) ?_
                  refine a_aload_n (j := 3) dX9_train_251 rfl rfl (Nat.le_of_ble_eq_true rfl) ?_
                  refine b_getp (a := 123) (p := 124) dX9_train_252 fwX9_9 (by decide) rfl (by decide) rfl rfl ?_
                  refine a_bipush dX9_train_255 ⟨by decide, by decide, by decide⟩ ?_
                  refine a_bipush dX9_train_257 ⟨by decide, by decide, by decide⟩ ?_
                  refine a_iload (j := 1) dX9_train_259 rfl ?_
                  refine a_imul (z := (11 * v2)) dX9_train_261 (w_ok (by omega) (by omega)) ?_
                  refine a_iadd (z := (15 + (11 * v2))) dX9_train_262 (w_ok (by omega) (by omega)) ?_
                  refine a_bipush dX9_train_263 ⟨by decide, by decide, by decide⟩ ?_
                  refine a_iadd (z := ((15 + (11 * v2)) + 7)) dX9_train_265 (w_ok (by omega) (by omega)) ?_
                  refine a_bipush dX9_train_266 ⟨by decide, by decide, by decide⟩ ?_
                  refine b_iastore (a := 124) (Int.toNat ((15 + (11 * v2)) + 7)) dX9_train_268 (by decide) rfl (by omega) (by omega) (sp_nil rfl _) ?_
                  refine a_aload_n (j := 3) dX9_train_269 rfl rfl (Nat.le_of_ble_eq_true rfl) ?_
                  refine a_iconst dX9_train_270 ⟨by decide, by decide⟩ ?_
                  refine b_put (a := 123) (v := vI 0) dX9_train_271 pwX9_111 (fun h => nomatch h) (by decide) rfl (by decide) rfl rfl (fit_bool (by first | exact Or.inl rfl | exact Or.inr rfl | omega)) ?_
                  show Aj γ mX9_train d 0 0 Post 274 [(7, vI 11), (6, vI v2), (5, vI 1), (0, vA 123), (1, vI k), (2, vI e), (3, vI l), (4, vI t)] [] (mk (up2 (up2 (up2 (up2 (up2 (up2 (up2 (up2 (up2 (up2 (up2 (up2 (up2 (up2 (up2 (up2 (up2 (up2 (up2 (up2 h 124 (Int.toNat ((15 + (11 * v2)) + 0)) 0) 124 (Int.toNat ((15 + (11 * v2)) + 1)) 0) 124 (Int.toNat ((15 + (11 * v2)) + 2)) 0) 124 (Int.toNat ((15 + (11 * v2)) + 3)) 0) 124 (Int.toNat ((15 + (11 * v2)) + 4)) 0) 124 (Int.toNat ((15 + (11 * v2)) + 5)) 0) 124 (Int.toNat ((15 + (11 * v2)) + 6)) 0) 124 (Int.toNat ((15 + (11 * v2)) + 7)) 0) 124 (Int.toNat ((15 + (11 * v2)) + 8)) 0) 124 (Int.toNat ((15 + (11 * v2)) + 9)) 0) 124 (Int.toNat ((15 + (11 * v2)) + 10)) 0) 124 5 (v2 + 1)) 124 (Int.toNat (15 + (11 * v2))) k) 124 (Int.toNat ((15 + (11 * v2)) + 1)) (e / 10)) 124 (Int.toNat ((15 + (11 * v2)) + 2)) (e % 10)) 124 (Int.toNat ((15 + (11 * v2)) + 3)) l) 124 (Int.toNat ((15 + (11 * v2)) + 4)) t) 124 (Int.toNat ((15 + (11 * v2)) + 6)) (-1)) 124 (Int.toNat ((15 + (11 * v2)) + 7)) 100) 123 4 0) τ)
                  refine a_iload (j := 1) dX9_train_274 rfl ?_
                  exact a_iret dX9_train_276 rfl (k3 t3_1 c10_2 t18_3 t29_4 c43_5 t63_6 t75_7 c92_9)
                · refine a_ldc (z := (-1000000003)) dX9_train_95 kwX9_147 ⟨by decide, by decide, by decide⟩ ?_
                  exact a_iret dX9_train_97 rfl (k4 t3_1 c10_2 t18_3 t29_4 c43_5 t63_6 t75_7 c92_9)
              · have t75_7 : ¬ (1 ≤ t ∧ t ≤ 600) := t75_7
                show Aj γ mX9_train d 0 0 Post 78 [(5, vI 1), (0, vA 123), (1, vI k), (2, vI e), (3, vI l), (4, vI t)] [vI 0] (mk h τ)
                refine a_if_ne (tgt := 84) dX9_train_78 (by decide) (fun c => absurd c (by decide)) (fun _ => ?_)
                refine a_ldc (z := (-1000000001)) dX9_train_81 kwX9_146 ⟨by decide, by decide, by decide⟩ ?_
                exact a_iret dX9_train_83 rfl (k5 t3_1 c10_2 t18_3 t29_4 c43_5 t63_6 t75_7)
            · have t63_6 : ¬ (0 ≤ l ∧ l ≤ 1439) := t63_6
              show Aj γ mX9_train d 0 0 Post 66 [(5, vI 1), (0, vA 123), (1, vI k), (2, vI e), (3, vI l), (4, vI t)] [vI 0] (mk h τ)
              refine a_if_eq (tgt := 81) dX9_train_66 (by decide) (fun _ => ?_) (fun c => absurd c (by decide))
              refine a_ldc (z := (-1000000001)) dX9_train_81 kwX9_146 ⟨by decide, by decide, by decide⟩ ?_
              exact a_iret dX9_train_83 rfl (k6 t3_1 c10_2 t18_3 t29_4 c43_5 t63_6)
        · have t29_4 : ¬ (0 ≤ (e % 10) ∧ (e % 10) < v1) := t29_4
          show Aj γ mX9_train d 0 0 Post 32 [(0, vA 123), (1, vI k), (2, vI e), (3, vI l), (4, vI t)] [vI 0] (mk h τ)
          refine a_if_eq (tgt := 50) dX9_train_32 (by decide) (fun _ => ?_) (fun c => absurd c (by decide))
          refine a_iconst dX9_train_50 ⟨by decide, by decide⟩ ?_
          refine a_istore (lv' := [(5, vI 0), (0, vA 123), (1, vI k), (2, vI e), (3, vI l), (4, vI t)]) dX9_train_51 (by decide) rfl ?_
          refine a_iload (j := 0) dX9_train_53 rfl ?_
          refine a_if_eq (tgt := 81) dX9_train_55 (by decide) (fun _ => ?_) (fun c => absurd c (by decide))
          refine a_ldc (z := (-1000000001)) dX9_train_81 kwX9_146 ⟨by decide, by decide, by decide⟩ ?_
          exact a_iret dX9_train_83 rfl (k7 t3_1 c10_2 t18_3 t29_4)
      · have t18_3 : ¬ (0 ≤ (e / 10) ∧ (e / 10) < v1) := t18_3
        show Aj γ mX9_train d 0 0 Post 21 [(0, vA 123), (1, vI k), (2, vI e), (3, vI l), (4, vI t)] [vI 0] (mk h τ)
        refine a_if_eq (tgt := 50) dX9_train_21 (by decide) (fun _ => ?_) (fun c => absurd c (by decide))
        refine a_iconst dX9_train_50 ⟨by decide, by decide⟩ ?_
        refine a_istore (lv' := [(5, vI 0), (0, vA 123), (1, vI k), (2, vI e), (3, vI l), (4, vI t)]) dX9_train_51 (by decide) rfl ?_
        refine a_iload (j := 0) dX9_train_53 rfl ?_
        refine a_if_eq (tgt := 81) dX9_train_55 (by decide) (fun _ => ?_) (fun c => absurd c (by decide))
        refine a_ldc (z := (-1000000001)) dX9_train_81 kwX9_146 ⟨by decide, by decide, by decide⟩ ?_
        exact a_iret dX9_train_83 rfl (k8 t3_1 c10_2 t18_3)
  · have t3_1 : ¬ (0 ≤ k ∧ k ≤ 5) := t3_1
    show Aj γ mX9_train d 0 0 Post 6 [(0, vA 123), (1, vI k), (2, vI e), (3, vI l), (4, vI t)] [vI 0] (mk h τ)
    refine a_if_eq (tgt := 50) dX9_train_6 (by decide) (fun _ => ?_) (fun c => absurd c (by decide))
    refine a_iconst dX9_train_50 ⟨by decide, by decide⟩ ?_
    refine a_istore (lv' := [(5, vI 0), (0, vA 123), (1, vI k), (2, vI e), (3, vI l), (4, vI t)]) dX9_train_51 (by decide) rfl ?_
    refine a_iload (j := 0) dX9_train_53 rfl ?_
    refine a_if_eq (tgt := 81) dX9_train_55 (by decide) (fun _ => ?_) (fun c => absurd c (by decide))
    refine a_ldc (z := (-1000000001)) dX9_train_81 kwX9_146 ⟨by decide, by decide, by decide⟩ ?_
    exact a_iret dX9_train_83 rfl (k9 t3_1)
