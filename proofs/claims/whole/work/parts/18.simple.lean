set_option maxHeartbeats 8000000 in
theorem c_X8_stop {γ : GT} {d : Nat} {w : Int} {h : Nat → Nat → Int} {τ : List AC} {Post : Option AV → List AC → Prop} (hd : 2 ≤ d) {v1 : Int} (e1 : h 1 1 = v1) {v2 : Int} (e2 : h 0 3 = v2) (hS : 0 ≤ v1 ∧ v1 ≤ 6) (hs : 0 ≤ v2 ∧ v2 ≤ 1000) (k1 : (0 ≤ w ∧ w ≤ 99) → (v1 < 6) → Post (some (vI ((v1 + 1) - 1))) (mk (up2 (up2 (up2 (up2 h 2 (Int.toNat v1) w) 1 1 (v1 + 1)) 0 3 (v2 + 1)) 1 0 (v2 + 1)) τ)) (k2 : (0 ≤ w ∧ w ≤ 99) → (¬ v1 < 6) → Post (some (vI (-1000000003))) (mk h τ)) (k3 : (¬ (0 ≤ w ∧ w ≤ 99)) → Post (some (vI (-1000000001))) (mk h τ)) : Cj γ mX8_stop d 0 0 [vA 0, vI w] (mk h τ) Post := by
  refine c_of (by decide) (Nat.le_of_ble_eq_true rfl) ?_
  show Aj γ mX8_stop d 0 0 Post 0 [(0, vA 0), (1, vI w)] [] (mk h τ)
  refine a_iload_n (j := 1) dX8_stop_0 rfl rfl ?_
  refine a_iconst dX8_stop_1 ⟨by decide, by decide⟩ ?_
  refine a_bipush dX8_stop_2 ⟨by decide, by decide, by decide⟩ ?_
  refine a_callS (d' := d - 1) (mc' := 0) (ms' := 0) (mc1 := 0) (ms1 := 0) (st := []) [vI w, vI 0, vI 99] dX8_stop_4 mwX8_within lkX8_68 rfl (Nat.le_of_ble_eq_true rfl) (by omega) rfl rfl (c_X8_within  (by omega)    (fun t4_1 => ?_) (fun t4_1 => ?_))
  · have t4_1 : 0 ≤ w ∧ w ≤ 99 := t4_1
    show Aj γ mX8_stop d 0 0 Post 7 [(0, vA 0), (1, vI w)] [vI 1] (mk h τ)
    refine a_if_ne (tgt := 13) dX8_stop_7 (by decide) (fun _ => ?_) (fun c => absurd c (by decide))
    refine a_aload_n (j := 0) dX8_stop_13 rfl rfl (Nat.le_of_ble_eq_true rfl) ?_
    refine b_getp (a := 0) (p := 1) dX8_stop_14 fwX8_14 (by decide) rfl (by decide) rfl rfl ?_
    refine b_get (a := 1) (z := v1) (t := 0) dX8_stop_17 fwX8_73 (by decide) rfl (by decide) rfl rfl e1 ?_
    refine a_bipush dX8_stop_20 ⟨by decide, by decide, by decide⟩ ?_
    refine a_icmp_lt (tgt := 28) dX8_stop_22 (by decide) (fun c22_2 => ?_) (fun c22_2 => ?_)
    · refine a_aload_n (j := 0) dX8_stop_28 rfl rfl (Nat.le_of_ble_eq_true rfl) ?_
      refine b_getp (a := 0) (p := 1) dX8_stop_29 fwX8_14 (by decide) rfl (by decide) rfl rfl ?_
      refine b_getp (a := 1) (p := 2) dX8_stop_32 fwX8_78 (by decide) rfl (by decide) rfl rfl ?_
      refine a_aload_n (j := 0) dX8_stop_35 rfl rfl (Nat.le_of_ble_eq_true rfl) ?_
      refine b_getp (a := 0) (p := 1) dX8_stop_36 fwX8_14 (by decide) rfl (by decide) rfl rfl ?_
      refine b_get (a := 1) (z := v1) (t := 0) dX8_stop_39 fwX8_73 (by decide) rfl (by decide) rfl rfl e1 ?_
      refine a_iload_n (j := 1) dX8_stop_42 rfl rfl ?_
      refine b_iastore (a := 2) (Int.toNat v1) dX8_stop_43 (by decide) rfl (by omega) (by omega) (sp_nil rfl _) ?_
      refine a_aload_n (j := 0) dX8_stop_44 rfl rfl (Nat.le_of_ble_eq_true rfl) ?_
      refine b_getp (a := 0) (p := 1) dX8_stop_45 fwX8_14 (by decide) rfl (by decide) rfl rfl ?_
      refine a_dup dX8_stop_48 (fun h => nomatch h) ?_
      refine b_get (a := 1) (z := v1) (t := 0) dX8_stop_49 fwX8_73 (by decide) rfl (by decide) rfl rfl ((up2_ne (by omega)).trans e1) ?_
      refine a_iconst dX8_stop_52 ⟨by decide, by decide⟩ ?_
      refine a_iadd (z := (v1 + 1)) dX8_stop_53 (w_ok (by omega) (by omega)) ?_
      refine b_put (a := 1) (v := vI (v1 + 1)) dX8_stop_54 pwX8_73 (fun h => nomatch h) (by decide) rfl (by decide) rfl rfl (fit_int _) ?_
      show Aj γ mX8_stop d 0 0 Post 57 [(0, vA 0), (1, vI w)] [] (mk (up2 (up2 h 2 (Int.toNat v1) w) 1 1 (v1 + 1)) τ)
      refine a_aload_n (j := 0) dX8_stop_57 rfl rfl (Nat.le_of_ble_eq_true rfl) ?_
      refine b_callV (d' := d - 1) (mc' := 0) (ms' := 0) (mc1 := 0) (ms1 := 0) (st := []) (b := 0) [] dX8_stop_58 mwX8_stampAnew lkX8_81 (by decide) rfl rc_X8 rfl (Nat.le_of_ble_eq_true rfl) (by omega) rfl rfl (c_X8_stampAnew (v1 := v2) (by omega)  ((up2_ne (by omega)).trans ((up2_ne (by omega)).trans e2)) (show 0 ≤ v2 ∧ v2 ≤ 1000 by omega) ?_)
      show Aj γ mX8_stop d 0 0 Post 61 [(0, vA 0), (1, vI w)] [] (mk (up2 (up2 (up2 (up2 h 2 (Int.toNat v1) w) 1 1 (v1 + 1)) 0 3 (v2 + 1)) 1 0 (v2 + 1)) τ)
      refine a_aload_n (j := 0) dX8_stop_61 rfl rfl (Nat.le_of_ble_eq_true rfl) ?_
      refine b_getp (a := 0) (p := 1) dX8_stop_62 fwX8_14 (by decide) rfl (by decide) rfl rfl ?_
      refine b_get (a := 1) (z := (v1 + 1)) (t := 0) dX8_stop_65 fwX8_73 (by decide) rfl (by decide) rfl rfl ((up2_ne (by omega)).trans ((up2_ne (by omega)).trans up2_at)) ?_
      refine a_iconst dX8_stop_68 ⟨by decide, by decide⟩ ?_
      refine a_isub (z := ((v1 + 1) - 1)) dX8_stop_69 (w_ok (by omega) (by omega)) ?_
      exact a_iret dX8_stop_70 rfl (k1 t4_1 c22_2)
    · refine a_ldc (z := (-1000000003)) dX8_stop_25 kwX8_77 ⟨by decide, by decide, by decide⟩ ?_
      exact a_iret dX8_stop_27 rfl (k2 t4_1 c22_2)
  · have t4_1 : ¬ (0 ≤ w ∧ w ≤ 99) := t4_1
    show Aj γ mX8_stop d 0 0 Post 7 [(0, vA 0), (1, vI w)] [vI 0] (mk h τ)
    refine a_if_ne (tgt := 13) dX8_stop_7 (by decide) (fun c => absurd c (by decide)) (fun _ => ?_)
    refine a_ldc (z := (-1000000001)) dX8_stop_10 kwX8_72 ⟨by decide, by decide, by decide⟩ ?_
    exact a_iret dX8_stop_12 rfl (k3 t4_1)
set_option maxHeartbeats 8000000 in
theorem c_X8_turns {γ : GT} {d : Nat} {t k : Int} {h : Nat → Nat → Int} {τ : List AC} {Post : Option AV → List AC → Prop} (hd : 2 ≤ d) {v1 : Int} (e1 : h 1 3 = v1) {v2 : Int} (e2 : h 0 3 = v2) {v3 : Int} (e3 : h (8 + 2 * (Int.toNat t)) 0 = v3) (hN : 0 ≤ v1 ∧ v1 ≤ 12) (hs : 0 ≤ v2 ∧ v2 ≤ 1000) (k1 : (0 ≤ t ∧ t < v1) → (0 ≤ k ∧ k ≤ 5) → Post (some (vI v3)) (mk (up2 (up2 (up2 h (8 + 2 * (Int.toNat t)) 0 k) 0 3 (v2 + 1)) 1 0 (v2 + 1)) τ)) (k2 : (0 ≤ t ∧ t < v1) → (¬ (0 ≤ k ∧ k ≤ 5)) → Post (some (vI (-1000000001))) (mk h τ)) (k3 : (¬ (0 ≤ t ∧ t < v1)) → Post (some (vI (-1000000001))) (mk h τ)) : Cj γ mX8_turns d 0 0 [vA 0, vI t, vI k] (mk h τ) Post := by
  refine c_of (by decide) (Nat.le_of_ble_eq_true rfl) ?_
  show Aj γ mX8_turns d 0 0 Post 0 [(0, vA 0), (1, vI t), (2, vI k)] [] (mk h τ)
  refine a_aload_n (j := 0) dX8_turns_0 rfl rfl (Nat.le_of_ble_eq_true rfl) ?_
  refine b_getp (a := 0) (p := 1) dX8_turns_1 fwX8_14 (by decide) rfl (by decide) rfl rfl ?_
  refine a_iload_n (j := 1) dX8_turns_4 rfl rfl ?_
  refine b_callV (d' := d - 1) (mc' := 0) (ms' := 0) (mc1 := 0) (ms1 := 0) (st := []) (b := 1) [vI t] dX8_turns_5 mwX7_isTrain lkX8_121 (by decide) rfl rc_X7 rfl (Nat.le_of_ble_eq_true rfl) (by omega) rfl rfl (c_X7_isTrain (v1 := v1) (by omega) (Or.inl rfl) e1 (show 0 ≤ v1 ∧ v1 ≤ 12 by omega) (fun t5_1 => ?_) (fun t5_1 => ?_))
  · have t5_1 : 0 ≤ t ∧ t < v1 := t5_1
    show Aj γ mX8_turns d 0 0 Post 8 [(0, vA 0), (1, vI t), (2, vI k)] [vI 1] (mk h τ)
    refine a_if_eq (tgt := 18) dX8_turns_8 (by decide) (fun c => absurd c (by decide)) (fun _ => ?_)
    refine a_iload_n (j := 2) dX8_turns_11 rfl rfl ?_
    refine a_callS (d' := d - 1) (mc' := 0) (ms' := 0) (mc1 := 0) (ms1 := 0) (st := []) [vI k] dX8_turns_12 mwX8_isKind lkX8_93 rfl (Nat.le_of_ble_eq_true rfl) (by omega) rfl rfl (c_X8_isKind  (by omega)    (fun t12_2 => ?_) (fun t12_2 => ?_))
    · have t12_2 : 0 ≤ k ∧ k ≤ 5 := t12_2
      show Aj γ mX8_turns d 0 0 Post 15 [(0, vA 0), (1, vI t), (2, vI k)] [vI 1] (mk h τ)
      refine a_if_ne (tgt := 21) dX8_turns_15 (by decide) (fun _ => ?_) (fun c => absurd c (by decide))
      refine a_aload_n (j := 0) dX8_turns_21 rfl rfl (Nat.le_of_ble_eq_true rfl) ?_
      refine b_getp (a := 0) (p := 1) dX8_turns_22 fwX8_14 (by decide) rfl (by decide) rfl rfl ?_
      refine b_getp (a := 1) (p := 3) dX8_turns_25 fwX8_105 (by decide) rfl (by decide) rfl rfl ?_
      refine a_iload_n (j := 1) dX8_turns_28 rfl rfl ?_
      refine b_aaloadp (a := 3) (p := (8 + 2 * (Int.toNat t))) (Int.toNat t) dX8_turns_29 (by decide) rfl qa_18 (by omega) (by omega) (tr_a (Or.inl rfl : isWd 1) (show (Int.toNat t) < 12 by omega)) ?_
      refine b_get (a := (8 + 2 * (Int.toNat t))) (z := v3) (t := 0) dX8_turns_30 fwX8_141 (by have := (tr_w (Or.inl rfl : isWd 1) (show (Int.toNat t) < 12 by omega)).1; omega) (tr_w (Or.inl rfl : isWd 1) (show (Int.toNat t) < 12 by omega)).2.1 (by decide) (tr_s (tr_w (Or.inl rfl : isWd 1) (show (Int.toNat t) < 12 by omega)) (by decide)) rfl e3 ?_
      refine a_istore_n (lv' := [(3, vI v3), (0, vA 0), (1, vI t), (2, vI k)]) dX8_turns_33 rfl (by decide) rfl ?_
      refine a_aload_n (j := 1) dX8_turns_34 rfl rfl (Nat.le_of_ble_eq_true rfl) ?_
      refine b_getp (a := 0) (p := 1) dX8_turns_35 fwX8_14 (by decide) rfl (by decide) rfl rfl ?_
      refine b_getp (a := 1) (p := 3) dX8_turns_38 fwX8_105 (by decide) rfl (by decide) rfl rfl ?_
      refine a_iload_n (j := 2) dX8_turns_41 rfl rfl ?_
      refine b_aaloadp (a := 3) (p := (8 + 2 * (Int.toNat t))) (Int.toNat t) dX8_turns_42 (by decide) rfl qa_18 (by omega) (by omega) (tr_a (Or.inl rfl : isWd 1) (show (Int.toNat t) < 12 by omega)) ?_
      refine a_iload_n (j := 3) dX8_turns_43 rfl rfl ?_
      refine b_put (a := (8 + 2 * (Int.toNat t))) (v := vI k) dX8_turns_44 pwX8_141 (fun h => nomatch h) (by have := (tr_w (Or.inl rfl : isWd 1) (show (Int.toNat t) < 12 by omega)).1; omega) (tr_w (Or.inl rfl : isWd 1) (show (Int.toNat t) < 12 by omega)).2.1 (by decide) (tr_s (tr_w (Or.inl rfl : isWd 1) (show (Int.toNat t) < 12 by omega)) (by decide)) rfl (fit_int _) ?_
      show Aj γ mX8_turns d 0 0 Post 47 [(3, vI v3), (0, vA 0), (1, vI t), (2, vI k)] [] (mk (up2 h (8 + 2 * (Int.toNat t)) 0 k) τ)
      refine a_aload_n (j := 1) dX8_turns_47 rfl rfl (Nat.le_of_ble_eq_true rfl) ?_
      refine b_callV (d' := d - 1) (mc' := 0) (ms' := 0) (mc1 := 0) (ms1 := 0) (st := []) (b := 0) [] dX8_turns_48 mwX8_stampAnew lkX8_81 (by decide) rfl rc_X8 rfl (Nat.le_of_ble_eq_true rfl) (by omega) rfl rfl (c_X8_stampAnew (v1 := v2) (by omega)  ((up2_ne (by omega)).trans e2) (show 0 ≤ v2 ∧ v2 ≤ 1000 by omega) ?_)
      show Aj γ mX8_turns d 0 0 Post 51 [(3, vI v3), (0, vA 0), (1, vI t), (2, vI k)] [] (mk (up2 (up2 (up2 h (8 + 2 * (Int.toNat t)) 0 k) 0 3 (v2 + 1)) 1 0 (v2 + 1)) τ)
      refine a_iload_n (j := 0) dX8_turns_51 rfl rfl ?_
      exact a_iret dX8_turns_52 rfl (k1 t5_1 t12_2)
    · have t12_2 : ¬ (0 ≤ k ∧ k ≤ 5) := t12_2
      show Aj γ mX8_turns d 0 0 Post 15 [(0, vA 0), (1, vI t), (2, vI k)] [vI 0] (mk h τ)
      refine a_if_ne (tgt := 21) dX8_turns_15 (by decide) (fun c => absurd c (by decide)) (fun _ => ?_)
      refine a_ldc (z := (-1000000001)) dX8_turns_18 kwX8_72 ⟨by decide, by decide, by decide⟩ ?_
      exact a_iret dX8_turns_20 rfl (k2 t5_1 t12_2)
  · have t5_1 : ¬ (0 ≤ t ∧ t < v1) := t5_1
    show Aj γ mX8_turns d 0 0 Post 8 [(0, vA 0), (1, vI t), (2, vI k)] [vI 0] (mk h τ)
    refine a_if_eq (tgt := 18) dX8_turns_8 (by decide) (fun _ => ?_) (fun c => absurd c (by decide))
    refine a_ldc (z := (-1000000001)) dX8_turns_18 kwX8_72 ⟨by decide, by decide, by decide⟩ ?_
    exact a_iret dX8_turns_20 rfl (k3 t5_1)
set_option maxHeartbeats 8000000 in
theorem c_X8_set {γ : GT} {d : Nat} {t q v : Int} {h : Nat → Nat → Int} {τ : List AC} {Post : Option AV → List AC → Prop} (hd : 2 ≤ d) {v1 : Int} (e1 : h 1 3 = v1) {v2 : Int} (e2 : h 0 3 = v2) {v3 : Int} (e3 : h (8 + 2 * (Int.toNat t)) 4 = v3) {v4 : Int} (e4 : h (8 + 2 * (Int.toNat t)) 3 = v4) {v5 : Int} (e5 : h (8 + 2 * (Int.toNat t)) 5 = v5) (hN : 0 ≤ v1 ∧ v1 ≤ 12) (hs : 0 ≤ v2 ∧ v2 ≤ 1000) (k1 : (0 ≤ t ∧ t < v1) → (¬ q = 0) → (¬ q = 1) → (¬ q = 2) → Post (some (vI (-1000000001))) (mk h τ)) (k2 : (0 ≤ t ∧ t < v1) → (¬ q = 0) → (¬ q = 1) → (q = 2) → (1 ≤ v ∧ v ≤ 600) → Post (some (vI v3)) (mk (up2 (up2 (up2 h (8 + 2 * (Int.toNat t)) 4 v) 0 3 (v2 + 1)) 1 0 (v2 + 1)) τ)) (k3 : (0 ≤ t ∧ t < v1) → (¬ q = 0) → (¬ q = 1) → (q = 2) → (¬ (1 ≤ v ∧ v ≤ 600)) → Post (some (vI (-1000000001))) (mk h τ)) (k4 : (0 ≤ t ∧ t < v1) → (¬ q = 0) → (q = 1) → (0 ≤ v ∧ v ≤ 1439) → Post (some (vI v4)) (mk (up2 (up2 (up2 h (8 + 2 * (Int.toNat t)) 3 v) 0 3 (v2 + 1)) 1 0 (v2 + 1)) τ)) (k5 : (0 ≤ t ∧ t < v1) → (¬ q = 0) → (q = 1) → (¬ (0 ≤ v ∧ v ≤ 1439)) → (¬ q = 2) → Post (some (vI (-1000000001))) (mk h τ)) (k6 : (0 ≤ t ∧ t < v1) → (q = 0) → (0 ≤ v ∧ v ≤ 999) → Post (some (vI v5)) (mk (up2 (up2 (up2 h (8 + 2 * (Int.toNat t)) 5 v) 0 3 (v2 + 1)) 1 0 (v2 + 1)) τ)) (k7 : (0 ≤ t ∧ t < v1) → (q = 0) → (¬ (0 ≤ v ∧ v ≤ 999)) → (¬ q = 1) → (¬ q = 2) → Post (some (vI (-1000000001))) (mk h τ)) (k8 : (¬ (0 ≤ t ∧ t < v1)) → Post (some (vI (-1000000001))) (mk h τ)) : Cj γ mX8_set d 0 0 [vA 0, vI t, vI q, vI v] (mk h τ) Post := by
  refine c_of (by decide) (Nat.le_of_ble_eq_true rfl) ?_
  show Aj γ mX8_set d 0 0 Post 0 [(0, vA 0), (1, vI t), (2, vI q), (3, vI v)] [] (mk h τ)
  refine a_aload_n (j := 0) dX8_set_0 rfl rfl (Nat.le_of_ble_eq_true rfl) ?_
  refine b_getp (a := 0) (p := 1) dX8_set_1 fwX8_14 (by decide) rfl (by decide) rfl rfl ?_
  refine a_iload_n (j := 1) dX8_set_4 rfl rfl ?_
  refine b_callV (d' := d - 1) (mc' := 0) (ms' := 0) (mc1 := 0) (ms1 := 0) (st := []) (b := 1) [vI t] dX8_set_5 mwX7_isTrain lkX8_121 (by decide) rfl rc_X7 rfl (Nat.le_of_ble_eq_true rfl) (by omega) rfl rfl (c_X7_isTrain (v1 := v1) (by omega) (Or.inl rfl) e1 (show 0 ≤ v1 ∧ v1 ≤ 12 by omega) (fun t5_1 => ?_) (fun t5_1 => ?_))
  · have t5_1 : 0 ≤ t ∧ t < v1 := t5_1
    show Aj γ mX8_set d 0 0 Post 8 [(0, vA 0), (1, vI t), (2, vI q), (3, vI v)] [vI 1] (mk h τ)
    refine a_if_ne (tgt := 14) dX8_set_8 (by decide) (fun _ => ?_) (fun c => absurd c (by decide))
    refine a_aload_n (j := 0) dX8_set_14 rfl rfl (Nat.le_of_ble_eq_true rfl) ?_
    refine b_getp (a := 0) (p := 1) dX8_set_15 fwX8_14 (by decide) rfl (by decide) rfl rfl ?_
    refine b_getp (a := 1) (p := 3) dX8_set_18 fwX8_105 (by decide) rfl (by decide) rfl rfl ?_
    refine a_iload_n (j := 1) dX8_set_21 rfl rfl ?_
    refine b_aaloadp (a := 3) (p := (8 + 2 * (Int.toNat t))) (Int.toNat t) dX8_set_22 (by decide) rfl qa_18 (by omega) (by omega) (tr_a (Or.inl rfl : isWd 1) (show (Int.toNat t) < 12 by omega)) ?_
    refine a_astore (lv' := [(4, vA (8 + 2 * (Int.toNat t))), (0, vA 0), (1, vI t), (2, vI q), (3, vI v)]) dX8_set_23 (by decide) (Nat.le_of_ble_eq_true rfl) rfl ?_
    refine a_iload_n (j := 3) dX8_set_25 rfl rfl ?_
    refine a_if_ne (tgt := 56) dX8_set_26 (by decide) (fun c26_2 => ?_) (fun c26_2 => ?_)
    · refine a_iload_n (j := 3) dX8_set_56 rfl rfl ?_
      refine a_iconst dX8_set_57 ⟨by decide, by decide⟩ ?_
      refine a_icmp_ne (tgt := 84) dX8_set_58 (by decide) (fun c58_3 => ?_) (fun c58_3 => ?_)
      · refine a_iload_n (j := 3) dX8_set_84 rfl rfl ?_
        refine a_iconst dX8_set_85 ⟨by decide, by decide⟩ ?_
        refine a_icmp_ne (tgt := 112) dX8_set_86 (by decide) (fun c86_4 => ?_) (fun c86_4 => ?_)
        · refine a_ldc (z := (-1000000001)) dX8_set_112 kwX8_72 ⟨by decide, by decide, by decide⟩ ?_
          exact a_iret dX8_set_114 rfl (k1 t5_1 c26_2 c58_3 c86_4)
        · refine a_iload_n (j := 4) dX8_set_89 rfl rfl ?_
          refine a_callS (d' := d - 1) (mc' := 0) (ms' := 0) (mc1 := 0) (ms1 := 0) (st := []) [vI v] dX8_set_90 mwX8_isTakes lkX8_99 rfl (Nat.le_of_ble_eq_true rfl) (by omega) rfl rfl (c_X8_isTakes  (by omega)    (fun t90_5 => ?_) (fun t90_5 => ?_))
          · have t90_5 : 1 ≤ v ∧ v ≤ 600 := t90_5
            show Aj γ mX8_set d 0 0 Post 93 [(4, vA (8 + 2 * (Int.toNat t))), (0, vA 0), (1, vI t), (2, vI q), (3, vI v)] [vI 1] (mk h τ)
            refine a_if_eq (tgt := 112) dX8_set_93 (by decide) (fun c => absurd c (by decide)) (fun _ => ?_)
            refine a_aload (j := 0) dX8_set_96 rfl (Nat.le_of_ble_eq_true rfl) ?_
            refine b_get (a := (8 + 2 * (Int.toNat t))) (z := v3) (t := 0) dX8_set_98 fwX8_118 (by have := (tr_w (Or.inl rfl : isWd 1) (show (Int.toNat t) < 12 by omega)).1; omega) (tr_w (Or.inl rfl : isWd 1) (show (Int.toNat t) < 12 by omega)).2.1 (by decide) (tr_s (tr_w (Or.inl rfl : isWd 1) (show (Int.toNat t) < 12 by omega)) (by decide)) rfl e3 ?_
            refine a_istore (lv' := [(5, vI v3), (4, vA (8 + 2 * (Int.toNat t))), (0, vA 0), (1, vI t), (2, vI q), (3, vI v)]) dX8_set_101 (by decide) rfl ?_
            refine a_aload (j := 1) dX8_set_103 rfl (Nat.le_of_ble_eq_true rfl) ?_
            refine a_iload_n (j := 5) dX8_set_105 rfl rfl ?_
            refine b_put (a := (8 + 2 * (Int.toNat t))) (v := vI v) dX8_set_106 pwX8_118 (fun h => nomatch h) (by have := (tr_w (Or.inl rfl : isWd 1) (show (Int.toNat t) < 12 by omega)).1; omega) (tr_w (Or.inl rfl : isWd 1) (show (Int.toNat t) < 12 by omega)).2.1 (by decide) (tr_s (tr_w (Or.inl rfl : isWd 1) (show (Int.toNat t) < 12 by omega)) (by decide)) rfl (fit_int _) ?_
            show Aj γ mX8_set d 0 0 Post 109 [(5, vI v3), (4, vA (8 + 2 * (Int.toNat t))), (0, vA 0), (1, vI t), (2, vI q), (3, vI v)] [] (mk (up2 h (8 + 2 * (Int.toNat t)) 4 v) τ)
            refine a_goto (tgt := 115) dX8_set_109 (by decide) ?_
            refine a_aload_n (j := 2) dX8_set_115 rfl rfl (Nat.le_of_ble_eq_true rfl) ?_
            refine b_callV (d' := d - 1) (mc' := 0) (ms' := 0) (mc1 := 0) (ms1 := 0) (st := []) (b := 0) [] dX8_set_116 mwX8_stampAnew lkX8_81 (by decide) rfl rc_X8 rfl (Nat.le_of_ble_eq_true rfl) (by omega) rfl rfl (c_X8_stampAnew (v1 := v2) (by omega)  ((up2_ne (by omega)).trans e2) (show 0 ≤ v2 ∧ v2 ≤ 1000 by omega) ?_)
            show Aj γ mX8_set d 0 0 Post 119 [(5, vI v3), (4, vA (8 + 2 * (Int.toNat t))), (0, vA 0), (1, vI t), (2, vI q), (3, vI v)] [] (mk (up2 (up2 (up2 h (8 + 2 * (Int.toNat t)) 4 v) 0 3 (v2 + 1)) 1 0 (v2 + 1)) τ)
            refine a_iload (j := 0) dX8_set_119 rfl ?_
            exact a_iret dX8_set_121 rfl (k2 t5_1 c26_2 c58_3 c86_4 t90_5)
          · have t90_5 : ¬ (1 ≤ v ∧ v ≤ 600) := t90_5
            show Aj γ mX8_set d 0 0 Post 93 [(4, vA (8 + 2 * (Int.toNat t))), (0, vA 0), (1, vI t), (2, vI q), (3, vI v)] [vI 0] (mk h τ)
            refine a_if_eq (tgt := 112) dX8_set_93 (by decide) (fun _ => ?_) (fun c => absurd c (by decide))
            refine a_ldc (z := (-1000000001)) dX8_set_112 kwX8_72 ⟨by decide, by decide, by decide⟩ ?_
            exact a_iret dX8_set_114 rfl (k3 t5_1 c26_2 c58_3 c86_4 t90_5)
      · refine a_iload_n (j := 4) dX8_set_61 rfl rfl ?_
        refine a_callS (d' := d - 1) (mc' := 0) (ms' := 0) (mc1 := 0) (ms1 := 0) (st := []) [vI v] dX8_set_62 mwX8_isLeave lkX8_96 rfl (Nat.le_of_ble_eq_true rfl) (by omega) rfl rfl (c_X8_isLeave  (by omega)    (fun t62_6 => ?_) (fun t62_6 => ?_))
        · have t62_6 : 0 ≤ v ∧ v ≤ 1439 := t62_6
          show Aj γ mX8_set d 0 0 Post 65 [(4, vA (8 + 2 * (Int.toNat t))), (0, vA 0), (1, vI t), (2, vI q), (3, vI v)] [vI 1] (mk h τ)
          refine a_if_eq (tgt := 84) dX8_set_65 (by decide) (fun c => absurd c (by decide)) (fun _ => ?_)
          refine a_aload (j := 0) dX8_set_68 rfl (Nat.le_of_ble_eq_true rfl) ?_
          refine b_get (a := (8 + 2 * (Int.toNat t))) (z := v4) (t := 0) dX8_set_70 fwX8_115 (by have := (tr_w (Or.inl rfl : isWd 1) (show (Int.toNat t) < 12 by omega)).1; omega) (tr_w (Or.inl rfl : isWd 1) (show (Int.toNat t) < 12 by omega)).2.1 (by decide) (tr_s (tr_w (Or.inl rfl : isWd 1) (show (Int.toNat t) < 12 by omega)) (by decide)) rfl e4 ?_
          refine a_istore (lv' := [(5, vI v4), (4, vA (8 + 2 * (Int.toNat t))), (0, vA 0), (1, vI t), (2, vI q), (3, vI v)]) dX8_set_73 (by decide) rfl ?_
          refine a_aload (j := 1) dX8_set_75 rfl (Nat.le_of_ble_eq_true rfl) ?_
          refine a_iload_n (j := 5) dX8_set_77 rfl rfl ?_
          refine b_put (a := (8 + 2 * (Int.toNat t))) (v := vI v) dX8_set_78 pwX8_115 (fun h => nomatch h) (by have := (tr_w (Or.inl rfl : isWd 1) (show (Int.toNat t) < 12 by omega)).1; omega) (tr_w (Or.inl rfl : isWd 1) (show (Int.toNat t) < 12 by omega)).2.1 (by decide) (tr_s (tr_w (Or.inl rfl : isWd 1) (show (Int.toNat t) < 12 by omega)) (by decide)) rfl (fit_int _) ?_
          show Aj γ mX8_set d 0 0 Post 81 [(5, vI v4), (4, vA (8 + 2 * (Int.toNat t))), (0, vA 0), (1, vI t), (2, vI q), (3, vI v)] [] (mk (up2 h (8 + 2 * (Int.toNat t)) 3 v) τ)
          refine a_goto (tgt := 115) dX8_set_81 (by decide) ?_
          refine a_aload_n (j := 2) dX8_set_115 rfl rfl (Nat.le_of_ble_eq_true rfl) ?_
          refine b_callV (d' := d - 1) (mc' := 0) (ms' := 0) (mc1 := 0) (ms1 := 0) (st := []) (b := 0) [] dX8_set_116 mwX8_stampAnew lkX8_81 (by decide) rfl rc_X8 rfl (Nat.le_of_ble_eq_true rfl) (by omega) rfl rfl (c_X8_stampAnew (v1 := v2) (by omega)  ((up2_ne (by omega)).trans e2) (show 0 ≤ v2 ∧ v2 ≤ 1000 by omega) ?_)
          show Aj γ mX8_set d 0 0 Post 119 [(5, vI v4), (4, vA (8 + 2 * (Int.toNat t))), (0, vA 0), (1, vI t), (2, vI q), (3, vI v)] [] (mk (up2 (up2 (up2 h (8 + 2 * (Int.toNat t)) 3 v) 0 3 (v2 + 1)) 1 0 (v2 + 1)) τ)
          refine a_iload (j := 0) dX8_set_119 rfl ?_
          exact a_iret dX8_set_121 rfl (k4 t5_1 c26_2 c58_3 t62_6)
        · have t62_6 : ¬ (0 ≤ v ∧ v ≤ 1439) := t62_6
          show Aj γ mX8_set d 0 0 Post 65 [(4, vA (8 + 2 * (Int.toNat t))), (0, vA 0), (1, vI t), (2, vI q), (3, vI v)] [vI 0] (mk h τ)
          refine a_if_eq (tgt := 84) dX8_set_65 (by decide) (fun _ => ?_) (fun c => absurd c (by decide))
          refine a_iload_n (j := 3) dX8_set_84 rfl rfl ?_
          refine a_iconst dX8_set_85 ⟨by decide, by decide⟩ ?_
          refine a_icmp_ne (tgt := 112) dX8_set_86 (by decide) (fun c86_7 => ?_) (fun c86_7 => absurd c86_7 (by omega))
          refine a_ldc (z := (-1000000001)) dX8_set_112 kwX8_72 ⟨by decide, by decide, by decide⟩ ?_
          exact a_iret dX8_set_114 rfl (k5 t5_1 c26_2 c58_3 t62_6 c86_7)
    · refine a_iload_n (j := 4) dX8_set_29 rfl rfl ?_
      refine a_iconst dX8_set_30 ⟨by decide, by decide⟩ ?_
      refine a_sipush dX8_set_31 ⟨by decide, by decide, by decide⟩ ?_
      refine a_callS (d' := d - 1) (mc' := 0) (ms' := 0) (mc1 := 0) (ms1 := 0) (st := []) [vI v, vI 0, vI 999] dX8_set_34 mwX8_within lkX8_68 rfl (Nat.le_of_ble_eq_true rfl) (by omega) rfl rfl (c_X8_within  (by omega)    (fun t34_8 => ?_) (fun t34_8 => ?_))
      · have t34_8 : 0 ≤ v ∧ v ≤ 999 := t34_8
        show Aj γ mX8_set d 0 0 Post 37 [(4, vA (8 + 2 * (Int.toNat t))), (0, vA 0), (1, vI t), (2, vI q), (3, vI v)] [vI 1] (mk h τ)
        refine a_if_eq (tgt := 56) dX8_set_37 (by decide) (fun c => absurd c (by decide)) (fun _ => ?_)
        refine a_aload (j := 0) dX8_set_40 rfl (Nat.le_of_ble_eq_true rfl) ?_
        refine b_get (a := (8 + 2 * (Int.toNat t))) (z := v5) (t := 0) dX8_set_42 fwX8_149 (by have := (tr_w (Or.inl rfl : isWd 1) (show (Int.toNat t) < 12 by omega)).1; omega) (tr_w (Or.inl rfl : isWd 1) (show (Int.toNat t) < 12 by omega)).2.1 (by decide) (tr_s (tr_w (Or.inl rfl : isWd 1) (show (Int.toNat t) < 12 by omega)) (by decide)) rfl e5 ?_
        refine a_istore (lv' := [(5, vI v5), (4, vA (8 + 2 * (Int.toNat t))), (0, vA 0), (1, vI t), (2, vI q), (3, vI v)]) dX8_set_45 (by decide) rfl ?_
        refine a_aload (j := 1) dX8_set_47 rfl (Nat.le_of_ble_eq_true rfl) ?_
        refine a_iload_n (j := 5) dX8_set_49 rfl rfl ?_
        refine b_put (a := (8 + 2 * (Int.toNat t))) (v := vI v) dX8_set_50 pwX8_149 (fun h => nomatch h) (by have := (tr_w (Or.inl rfl : isWd 1) (show (Int.toNat t) < 12 by omega)).1; omega) (tr_w (Or.inl rfl : isWd 1) (show (Int.toNat t) < 12 by omega)).2.1 (by decide) (tr_s (tr_w (Or.inl rfl : isWd 1) (show (Int.toNat t) < 12 by omega)) (by decide)) rfl (fit_int _) ?_
        show Aj γ mX8_set d 0 0 Post 53 [(5, vI v5), (4, vA (8 + 2 * (Int.toNat t))), (0, vA 0), (1, vI t), (2, vI q), (3, vI v)] [] (mk (up2 h (8 + 2 * (Int.toNat t)) 5 v) τ)
        refine a_goto (tgt := 115) dX8_set_53 (by decide) ?_
        refine a_aload_n (j := 2) dX8_set_115 rfl rfl (Nat.le_of_ble_eq_true rfl) ?_
        refine b_callV (d' := d - 1) (mc' := 0) (ms' := 0) (mc1 := 0) (ms1 := 0) (st := []) (b := 0) [] dX8_set_116 mwX8_stampAnew lkX8_81 (by decide) rfl rc_X8 rfl (Nat.le_of_ble_eq_true rfl) (by omega) rfl rfl (c_X8_stampAnew (v1 := v2) (by omega)  ((up2_ne (by omega)).trans e2) (show 0 ≤ v2 ∧ v2 ≤ 1000 by omega) ?_)
        show Aj γ mX8_set d 0 0 Post 119 [(5, vI v5), (4, vA (8 + 2 * (Int.toNat t))), (0, vA 0), (1, vI t), (2, vI q), (3, vI v)] [] (mk (up2 (up2 (up2 h (8 + 2 * (Int.toNat t)) 5 v) 0 3 (v2 + 1)) 1 0 (v2 + 1)) τ)
        refine a_iload (j := 0) dX8_set_119 rfl ?_
        exact a_iret dX8_set_121 rfl (k6 t5_1 c26_2 t34_8)
      · have t34_8 : ¬ (0 ≤ v ∧ v ≤ 999) := t34_8
        show Aj γ mX8_set d 0 0 Post 37 [(4, vA (8 + 2 * (Int.toNat t))), (0, vA 0), (1, vI t), (2, vI q), (3, vI v)] [vI 0] (mk h τ)
        refine a_if_eq (tgt := 56) dX8_set_37 (by decide) (fun _ => ?_) (fun c => absurd c (by decide))
        refine a_iload_n (j := 3) dX8_set_56 rfl rfl ?_
        refine a_iconst dX8_set_57 ⟨by decide, by decide⟩ ?_
        refine a_icmp_ne (tgt := 84) dX8_set_58 (by decide) (fun c58_9 => ?_) (fun c58_9 => absurd c58_9 (by omega))
        refine a_iload_n (j := 3) dX8_set_84 rfl rfl ?_
        refine a_iconst dX8_set_85 ⟨by decide, by decide⟩ ?_
        refine a_icmp_ne (tgt := 112) dX8_set_86 (by decide) (fun c86_10 => ?_) (fun c86_10 => absurd c86_10 (by omega))
        refine a_ldc (z := (-1000000001)) dX8_set_112 kwX8_72 ⟨by decide, by decide, by decide⟩ ?_
        exact a_iret dX8_set_114 rfl (k7 t5_1 c26_2 t34_8 c58_9 c86_10)
  · have t5_1 : ¬ (0 ≤ t ∧ t < v1) := t5_1
    show Aj γ mX8_set d 0 0 Post 8 [(0, vA 0), (1, vI t), (2, vI q), (3, vI v)] [vI 0] (mk h τ)
    refine a_if_ne (tgt := 14) dX8_set_8 (by decide) (fun c => absurd c (by decide)) (fun _ => ?_)
    refine a_ldc (z := (-1000000001)) dX8_set_11 kwX8_72 ⟨by decide, by decide, by decide⟩ ?_
    exact a_iret dX8_set_13 rfl (k8 t5_1)
set_option maxHeartbeats 8000000 in
theorem c_X8_day {γ : GT} {d : Nat} {v : Int} {h : Nat → Nat → Int} {τ : List AC} {Post : Option AV → List AC → Prop} (hd : 2 ≤ d) {v1 : Int} (e1 : h 0 3 = v1) {v2 : Int} (e2 : h 1 11 = v2) (hs : 0 ≤ v1 ∧ v1 ≤ 1000) (k1 : (0 ≤ v ∧ v ≤ 999) → Post (some (vI v2)) (mk (up2 (up2 (up2 h 1 11 v) 0 3 (v1 + 1)) 1 0 (v1 + 1)) τ)) (k2 : (¬ (0 ≤ v ∧ v ≤ 999)) → Post (some (vI (-1000000001))) (mk h τ)) : Cj γ mX8_day d 0 0 [vA 0, vI v] (mk h τ) Post := by
  refine c_of (by decide) (Nat.le_of_ble_eq_true rfl) ?_
  show Aj γ mX8_day d 0 0 Post 0 [(0, vA 0), (1, vI v)] [] (mk h τ)
  refine a_iload_n (j := 1) dX8_day_0 rfl rfl ?_
  refine a_iconst dX8_day_1 ⟨by decide, by decide⟩ ?_
  refine a_sipush dX8_day_2 ⟨by decide, by decide, by decide⟩ ?_
  refine a_callS (d' := d - 1) (mc' := 0) (ms' := 0) (mc1 := 0) (ms1 := 0) (st := []) [vI v, vI 0, vI 999] dX8_day_5 mwX8_within lkX8_68 rfl (Nat.le_of_ble_eq_true rfl) (by omega) rfl rfl (c_X8_within  (by omega)    (fun t5_1 => ?_) (fun t5_1 => ?_))
  · have t5_1 : 0 ≤ v ∧ v ≤ 999 := t5_1
    show Aj γ mX8_day d 0 0 Post 8 [(0, vA 0), (1, vI v)] [vI 1] (mk h τ)
    refine a_if_ne (tgt := 14) dX8_day_8 (by decide) (fun _ => ?_) (fun c => absurd c (by decide))
    refine a_aload_n (j := 0) dX8_day_14 rfl rfl (Nat.le_of_ble_eq_true rfl) ?_
    refine b_getp (a := 0) (p := 1) dX8_day_15 fwX8_14 (by decide) rfl (by decide) rfl rfl ?_
    refine b_get (a := 1) (z := v2) (t := 0) dX8_day_18 fwX8_163 (by decide) rfl (by decide) rfl rfl e2 ?_
    refine a_istore_n (lv' := [(2, vI v2), (0, vA 0), (1, vI v)]) dX8_day_21 rfl (by decide) rfl ?_
    refine a_aload_n (j := 1) dX8_day_22 rfl rfl (Nat.le_of_ble_eq_true rfl) ?_
    refine b_getp (a := 0) (p := 1) dX8_day_23 fwX8_14 (by decide) rfl (by decide) rfl rfl ?_
    refine a_iload_n (j := 2) dX8_day_26 rfl rfl ?_
    refine b_put (a := 1) (v := vI v) dX8_day_27 pwX8_163 (fun h => nomatch h) (by decide) rfl (by decide) rfl rfl (fit_int _) ?_
    show Aj γ mX8_day d 0 0 Post 30 [(2, vI v2), (0, vA 0), (1, vI v)] [] (mk (up2 h 1 11 v) τ)
    refine a_aload_n (j := 1) dX8_day_30 rfl rfl (Nat.le_of_ble_eq_true rfl) ?_
    refine b_callV (d' := d - 1) (mc' := 0) (ms' := 0) (mc1 := 0) (ms1 := 0) (st := []) (b := 0) [] dX8_day_31 mwX8_stampAnew lkX8_81 (by decide) rfl rc_X8 rfl (Nat.le_of_ble_eq_true rfl) (by omega) rfl rfl (c_X8_stampAnew (v1 := v1) (by omega)  ((up2_ne (by omega)).trans e1) (show 0 ≤ v1 ∧ v1 ≤ 1000 by omega) ?_)
    show Aj γ mX8_day d 0 0 Post 34 [(2, vI v2), (0, vA 0), (1, vI v)] [] (mk (up2 (up2 (up2 h 1 11 v) 0 3 (v1 + 1)) 1 0 (v1 + 1)) τ)
    refine a_iload_n (j := 0) dX8_day_34 rfl rfl ?_
    exact a_iret dX8_day_35 rfl (k1 t5_1)
  · have t5_1 : ¬ (0 ≤ v ∧ v ≤ 999) := t5_1
    show Aj γ mX8_day d 0 0 Post 8 [(0, vA 0), (1, vI v)] [vI 0] (mk h τ)
    refine a_if_ne (tgt := 14) dX8_day_8 (by decide) (fun c => absurd c (by decide)) (fun _ => ?_)
    refine a_ldc (z := (-1000000001)) dX8_day_11 kwX8_72 ⟨by decide, by decide, by decide⟩ ?_
    exact a_iret dX8_day_13 rfl (k2 t5_1)
set_option maxHeartbeats 8000000 in
theorem c_X8_add {γ : GT} {d : Nat} {t : Int} {h : Nat → Nat → Int} {τ : List AC} {Post : Option AV → List AC → Prop} (hd : 2 ≤ d) {v1 : Int} (e1 : h 1 3 = v1) {v2 : Int} (e2 : h 1 7 = v2) (hN : 0 ≤ v1 ∧ v1 ≤ 12) (hP : 0 ≤ v2 ∧ v2 ≤ 6) (k1 : (0 ≤ t ∧ t < v1) → (v2 < 6) → Post (some (vI (v2 + 1))) (mk (up2 (up2 h 5 (Int.toNat v2) t) 1 7 (v2 + 1)) τ)) (k2 : (0 ≤ t ∧ t < v1) → (¬ v2 < 6) → Post (some (vI (-1000000003))) (mk h τ)) (k3 : (¬ (0 ≤ t ∧ t < v1)) → Post (some (vI (-1000000001))) (mk h τ)) : Cj γ mX8_add d 0 0 [vA 0, vI t] (mk h τ) Post := by
  refine c_of (by decide) (Nat.le_of_ble_eq_true rfl) ?_
  show Aj γ mX8_add d 0 0 Post 0 [(0, vA 0), (1, vI t)] [] (mk h τ)
  refine a_aload_n (j := 0) dX8_add_0 rfl rfl (Nat.le_of_ble_eq_true rfl) ?_
  refine b_getp (a := 0) (p := 1) dX8_add_1 fwX8_14 (by decide) rfl (by decide) rfl rfl ?_
  refine a_iload_n (j := 1) dX8_add_4 rfl rfl ?_
  refine b_callV (d' := d - 1) (mc' := 0) (ms' := 0) (mc1 := 0) (ms1 := 0) (st := []) (b := 1) [vI t] dX8_add_5 mwX7_isTrain lkX8_121 (by decide) rfl rc_X7 rfl (Nat.le_of_ble_eq_true rfl) (by omega) rfl rfl (c_X7_isTrain (v1 := v1) (by omega) (Or.inl rfl) e1 (show 0 ≤ v1 ∧ v1 ≤ 12 by omega) (fun t5_1 => ?_) (fun t5_1 => ?_))
  · have t5_1 : 0 ≤ t ∧ t < v1 := t5_1
    show Aj γ mX8_add d 0 0 Post 8 [(0, vA 0), (1, vI t)] [vI 1] (mk h τ)
    refine a_if_ne (tgt := 14) dX8_add_8 (by decide) (fun _ => ?_) (fun c => absurd c (by decide))
    refine a_aload_n (j := 0) dX8_add_14 rfl rfl (Nat.le_of_ble_eq_true rfl) ?_
    refine b_getp (a := 0) (p := 1) dX8_add_15 fwX8_14 (by decide) rfl (by decide) rfl rfl ?_
    refine b_get (a := 1) (z := v2) (t := 0) dX8_add_18 fwX8_180 (by decide) rfl (by decide) rfl rfl e2 ?_
    refine a_bipush dX8_add_21 ⟨by decide, by decide, by decide⟩ ?_
    refine a_icmp_lt (tgt := 29) dX8_add_23 (by decide) (fun c23_2 => ?_) (fun c23_2 => ?_)
    · refine a_aload_n (j := 0) dX8_add_29 rfl rfl (Nat.le_of_ble_eq_true rfl) ?_
      refine b_getp (a := 0) (p := 1) dX8_add_30 fwX8_14 (by decide) rfl (by decide) rfl rfl ?_
      refine b_getp (a := 1) (p := 5) dX8_add_33 fwX8_183 (by decide) rfl (by decide) rfl rfl ?_
      refine a_aload_n (j := 0) dX8_add_36 rfl rfl (Nat.le_of_ble_eq_true rfl) ?_
      refine b_getp (a := 0) (p := 1) dX8_add_37 fwX8_14 (by decide) rfl (by decide) rfl rfl ?_
      refine b_get (a := 1) (z := v2) (t := 0) dX8_add_40 fwX8_180 (by decide) rfl (by decide) rfl rfl e2 ?_
      refine a_iload_n (j := 1) dX8_add_43 rfl rfl ?_
      refine b_iastore (a := 5) (Int.toNat v2) dX8_add_44 (by decide) rfl (by omega) (by omega) (sp_nil rfl _) ?_
      refine a_aload_n (j := 0) dX8_add_45 rfl rfl (Nat.le_of_ble_eq_true rfl) ?_
      refine b_getp (a := 0) (p := 1) dX8_add_46 fwX8_14 (by decide) rfl (by decide) rfl rfl ?_
      refine a_dup dX8_add_49 (fun h => nomatch h) ?_
      refine b_get (a := 1) (z := v2) (t := 0) dX8_add_50 fwX8_180 (by decide) rfl (by decide) rfl rfl ((up2_ne (by omega)).trans e2) ?_
      refine a_iconst dX8_add_53 ⟨by decide, by decide⟩ ?_
      refine a_iadd (z := (v2 + 1)) dX8_add_54 (w_ok (by omega) (by omega)) ?_
      refine b_put (a := 1) (v := vI (v2 + 1)) dX8_add_55 pwX8_180 (fun h => nomatch h) (by decide) rfl (by decide) rfl rfl (fit_int _) ?_
      show Aj γ mX8_add d 0 0 Post 58 [(0, vA 0), (1, vI t)] [] (mk (up2 (up2 h 5 (Int.toNat v2) t) 1 7 (v2 + 1)) τ)
      refine a_aload_n (j := 0) dX8_add_58 rfl rfl (Nat.le_of_ble_eq_true rfl) ?_
      refine b_getp (a := 0) (p := 1) dX8_add_59 fwX8_14 (by decide) rfl (by decide) rfl rfl ?_
      refine b_get (a := 1) (z := (v2 + 1)) (t := 0) dX8_add_62 fwX8_180 (by decide) rfl (by decide) rfl rfl up2_at ?_
      exact a_iret dX8_add_65 rfl (k1 t5_1 c23_2)
    · refine a_ldc (z := (-1000000003)) dX8_add_26 kwX8_77 ⟨by decide, by decide, by decide⟩ ?_
      exact a_iret dX8_add_28 rfl (k2 t5_1 c23_2)
  · have t5_1 : ¬ (0 ≤ t ∧ t < v1) := t5_1
    show Aj γ mX8_add d 0 0 Post 8 [(0, vA 0), (1, vI t)] [vI 0] (mk h τ)
    refine a_if_ne (tgt := 14) dX8_add_8 (by decide) (fun c => absurd c (by decide)) (fun _ => ?_)
    refine a_ldc (z := (-1000000001)) dX8_add_11 kwX8_72 ⟨by decide, by decide, by decide⟩ ?_
    exact a_iret dX8_add_13 rfl (k3 t5_1)
set_option maxHeartbeats 8000000 in
theorem c_X8_clear {γ : GT} {d : Nat}  {h : Nat → Nat → Int} {τ : List AC} {Post : Option AV → List AC → Prop} (hd : 2 ≤ d) {v1 : Int} (e1 : h 1 7 = v1) (k1 : Post (some (vI v1)) (mk (up2 h 1 7 0) τ)) : Cj γ mX8_clear d 0 0 [vA 0] (mk h τ) Post := by
  refine c_of (by decide) (Nat.le_of_ble_eq_true rfl) ?_
  show Aj γ mX8_clear d 0 0 Post 0 [(0, vA 0)] [] (mk h τ)
  refine a_aload_n (j := 0) dX8_clear_0 rfl rfl (Nat.le_of_ble_eq_true rfl) ?_
  refine b_getp (a := 0) (p := 1) dX8_clear_1 fwX8_14 (by decide) rfl (by decide) rfl rfl ?_
  refine b_get (a := 1) (z := v1) (t := 0) dX8_clear_4 fwX8_180 (by decide) rfl (by decide) rfl rfl e1 ?_
  refine a_istore_n (lv' := [(1, vI v1), (0, vA 0)]) dX8_clear_7 rfl (by decide) rfl ?_
  refine a_aload_n (j := 1) dX8_clear_8 rfl rfl (Nat.le_of_ble_eq_true rfl) ?_
  refine b_getp (a := 0) (p := 1) dX8_clear_9 fwX8_14 (by decide) rfl (by decide) rfl rfl ?_
  refine a_iconst dX8_clear_12 ⟨by decide, by decide⟩ ?_
  refine b_put (a := 1) (v := vI 0) dX8_clear_13 pwX8_180 (fun h => nomatch h) (by decide) rfl (by decide) rfl rfl (fit_int _) ?_
  show Aj γ mX8_clear d 0 0 Post 16 [(1, vI v1), (0, vA 0)] [] (mk (up2 h 1 7 0) τ)
  refine a_iload_n (j := 0) dX8_clear_16 rfl rfl ?_
  exact a_iret dX8_clear_17 rfl k1
set_option maxHeartbeats 8000000 in
theorem c_X8_aim {γ : GT} {d : Nat} {q v : Int} {h : Nat → Nat → Int} {τ : List AC} {Post : Option AV → List AC → Prop} (hd : 2 ≤ d) {v1 : Int} (e1 : h 1 1 = v1) {v2 : Int} (e2 : h 0 3 = v2) {v3 : Int} (e3 : h 1 10 = v3) {v4 : Int} (e4 : h 1 9 = v4) (hS : 0 ≤ v1 ∧ v1 ≤ 6) (hs : 0 ≤ v2 ∧ v2 ≤ 1000) (k1 : (¬ q = 0) → (¬ q = 1) → Post (some (vI (-1000000001))) (mk h τ)) (k2 : (¬ q = 0) → (q = 1) → (0 ≤ v ∧ v ≤ 2999) → Post (some (vI v3)) (mk (up2 (up2 (up2 h 1 10 v) 0 3 (v2 + 1)) 1 0 (v2 + 1)) τ)) (k3 : (¬ q = 0) → (q = 1) → (¬ (0 ≤ v ∧ v ≤ 2999)) → Post (some (vI (-1000000001))) (mk h τ)) (k4 : (q = 0) → (0 ≤ v ∧ v < v1) → Post (some (vI v4)) (mk (up2 (up2 (up2 h 1 9 v) 0 3 (v2 + 1)) 1 0 (v2 + 1)) τ)) (k5 : (q = 0) → (¬ (0 ≤ v ∧ v < v1)) → (¬ q = 1) → Post (some (vI (-1000000001))) (mk h τ)) : Cj γ mX8_aim d 0 0 [vA 0, vI q, vI v] (mk h τ) Post := by
  refine c_of (by decide) (Nat.le_of_ble_eq_true rfl) ?_
  show Aj γ mX8_aim d 0 0 Post 0 [(0, vA 0), (1, vI q), (2, vI v)] [] (mk h τ)
  refine a_iload_n (j := 1) dX8_aim_0 rfl rfl ?_
  refine a_if_ne (tgt := 34) dX8_aim_1 (by decide) (fun c1_1 => ?_) (fun c1_1 => ?_)
  · refine a_iload_n (j := 1) dX8_aim_34 rfl rfl ?_
    refine a_iconst dX8_aim_35 ⟨by decide, by decide⟩ ?_
    refine a_icmp_ne (tgt := 69) dX8_aim_36 (by decide) (fun c36_2 => ?_) (fun c36_2 => ?_)
    · refine a_ldc (z := (-1000000001)) dX8_aim_69 kwX8_72 ⟨by decide, by decide, by decide⟩ ?_
      exact a_iret dX8_aim_71 rfl (k1 c1_1 c36_2)
    · refine a_iload_n (j := 2) dX8_aim_39 rfl rfl ?_
      refine a_iconst dX8_aim_40 ⟨by decide, by decide⟩ ?_
      refine a_sipush dX8_aim_41 ⟨by decide, by decide, by decide⟩ ?_
      refine a_callS (d' := d - 1) (mc' := 0) (ms' := 0) (mc1 := 0) (ms1 := 0) (st := []) [vI v, vI 0, vI 2999] dX8_aim_44 mwX8_within lkX8_68 rfl (Nat.le_of_ble_eq_true rfl) (by omega) rfl rfl (c_X8_within  (by omega)    (fun t44_3 => ?_) (fun t44_3 => ?_))
      · have t44_3 : 0 ≤ v ∧ v ≤ 2999 := t44_3
        show Aj γ mX8_aim d 0 0 Post 47 [(0, vA 0), (1, vI q), (2, vI v)] [vI 1] (mk h τ)
        refine a_if_eq (tgt := 69) dX8_aim_47 (by decide) (fun c => absurd c (by decide)) (fun _ => ?_)
        refine a_aload_n (j := 0) dX8_aim_50 rfl rfl (Nat.le_of_ble_eq_true rfl) ?_
        refine b_getp (a := 0) (p := 1) dX8_aim_51 fwX8_14 (by decide) rfl (by decide) rfl rfl ?_
        refine b_get (a := 1) (z := v3) (t := 0) dX8_aim_54 fwX8_201 (by decide) rfl (by decide) rfl rfl e3 ?_
        refine a_istore_n (lv' := [(3, vI v3), (0, vA 0), (1, vI q), (2, vI v)]) dX8_aim_57 rfl (by decide) rfl ?_
        refine a_aload_n (j := 1) dX8_aim_58 rfl rfl (Nat.le_of_ble_eq_true rfl) ?_
        refine b_getp (a := 0) (p := 1) dX8_aim_59 fwX8_14 (by decide) rfl (by decide) rfl rfl ?_
        refine a_iload_n (j := 3) dX8_aim_62 rfl rfl ?_
        refine b_put (a := 1) (v := vI v) dX8_aim_63 pwX8_201 (fun h => nomatch h) (by decide) rfl (by decide) rfl rfl (fit_int _) ?_
        show Aj γ mX8_aim d 0 0 Post 66 [(3, vI v3), (0, vA 0), (1, vI q), (2, vI v)] [] (mk (up2 h 1 10 v) τ)
        refine a_goto (tgt := 72) dX8_aim_66 (by decide) ?_
        refine a_aload_n (j := 1) dX8_aim_72 rfl rfl (Nat.le_of_ble_eq_true rfl) ?_
        refine b_callV (d' := d - 1) (mc' := 0) (ms' := 0) (mc1 := 0) (ms1 := 0) (st := []) (b := 0) [] dX8_aim_73 mwX8_stampAnew lkX8_81 (by decide) rfl rc_X8 rfl (Nat.le_of_ble_eq_true rfl) (by omega) rfl rfl (c_X8_stampAnew (v1 := v2) (by omega)  ((up2_ne (by omega)).trans e2) (show 0 ≤ v2 ∧ v2 ≤ 1000 by omega) ?_)
        show Aj γ mX8_aim d 0 0 Post 76 [(3, vI v3), (0, vA 0), (1, vI q), (2, vI v)] [] (mk (up2 (up2 (up2 h 1 10 v) 0 3 (v2 + 1)) 1 0 (v2 + 1)) τ)
        refine a_iload_n (j := 0) dX8_aim_76 rfl rfl ?_
        exact a_iret dX8_aim_77 rfl (k2 c1_1 c36_2 t44_3)
      · have t44_3 : ¬ (0 ≤ v ∧ v ≤ 2999) := t44_3
        show Aj γ mX8_aim d 0 0 Post 47 [(0, vA 0), (1, vI q), (2, vI v)] [vI 0] (mk h τ)
        refine a_if_eq (tgt := 69) dX8_aim_47 (by decide) (fun _ => ?_) (fun c => absurd c (by decide))
        refine a_ldc (z := (-1000000001)) dX8_aim_69 kwX8_72 ⟨by decide, by decide, by decide⟩ ?_
        exact a_iret dX8_aim_71 rfl (k3 c1_1 c36_2 t44_3)
  · refine a_aload_n (j := 0) dX8_aim_4 rfl rfl (Nat.le_of_ble_eq_true rfl) ?_
    refine b_getp (a := 0) (p := 1) dX8_aim_5 fwX8_14 (by decide) rfl (by decide) rfl rfl ?_
    refine a_iload_n (j := 2) dX8_aim_8 rfl rfl ?_
    refine b_callV (d' := d - 1) (mc' := 0) (ms' := 0) (mc1 := 0) (ms1 := 0) (st := []) (b := 1) [vI v] dX8_aim_9 mwX7_isStop lkX8_84 (by decide) rfl rc_X7 rfl (Nat.le_of_ble_eq_true rfl) (by omega) rfl rfl (c_X7_isStop (v1 := v1) (by omega) (Or.inl rfl) e1 (show 0 ≤ v1 ∧ v1 ≤ 6 by omega) (fun t9_4 => ?_) (fun t9_4 => ?_))
    · have t9_4 : 0 ≤ v ∧ v < v1 := t9_4
      show Aj γ mX8_aim d 0 0 Post 12 [(0, vA 0), (1, vI q), (2, vI v)] [vI 1] (mk h τ)
      refine a_if_eq (tgt := 34) dX8_aim_12 (by decide) (fun c => absurd c (by decide)) (fun _ => ?_)
      refine a_aload_n (j := 0) dX8_aim_15 rfl rfl (Nat.le_of_ble_eq_true rfl) ?_
      refine b_getp (a := 0) (p := 1) dX8_aim_16 fwX8_14 (by decide) rfl (by decide) rfl rfl ?_
      refine b_get (a := 1) (z := v4) (t := 0) dX8_aim_19 fwX8_198 (by decide) rfl (by decide) rfl rfl e4 ?_
      refine a_istore_n (lv' := [(3, vI v4), (0, vA 0), (1, vI q), (2, vI v)]) dX8_aim_22 rfl (by decide) rfl ?_
      refine a_aload_n (j := 1) dX8_aim_23 rfl rfl (Nat.le_of_ble_eq_true rfl) ?_
      refine b_getp (a := 0) (p := 1) dX8_aim_24 fwX8_14 (by decide) rfl (by decide) rfl rfl ?_
      refine a_iload_n (j := 3) dX8_aim_27 rfl rfl ?_
      refine b_put (a := 1) (v := vI v) dX8_aim_28 pwX8_198 (fun h => nomatch h) (by decide) rfl (by decide) rfl rfl (fit_int _) ?_
      show Aj γ mX8_aim d 0 0 Post 31 [(3, vI v4), (0, vA 0), (1, vI q), (2, vI v)] [] (mk (up2 h 1 9 v) τ)
      refine a_goto (tgt := 72) dX8_aim_31 (by decide) ?_
      refine a_aload_n (j := 1) dX8_aim_72 rfl rfl (Nat.le_of_ble_eq_true rfl) ?_
      refine b_callV (d' := d - 1) (mc' := 0) (ms' := 0) (mc1 := 0) (ms1 := 0) (st := []) (b := 0) [] dX8_aim_73 mwX8_stampAnew lkX8_81 (by decide) rfl rc_X8 rfl (Nat.le_of_ble_eq_true rfl) (by omega) rfl rfl (c_X8_stampAnew (v1 := v2) (by omega)  ((up2_ne (by omega)).trans e2) (show 0 ≤ v2 ∧ v2 ≤ 1000 by omega) ?_)
      show Aj γ mX8_aim d 0 0 Post 76 [(3, vI v4), (0, vA 0), (1, vI q), (2, vI v)] [] (mk (up2 (up2 (up2 h 1 9 v) 0 3 (v2 + 1)) 1 0 (v2 + 1)) τ)
      refine a_iload_n (j := 0) dX8_aim_76 rfl rfl ?_
      exact a_iret dX8_aim_77 rfl (k4 c1_1 t9_4)
    · have t9_4 : ¬ (0 ≤ v ∧ v < v1) := t9_4
      show Aj γ mX8_aim d 0 0 Post 12 [(0, vA 0), (1, vI q), (2, vI v)] [vI 0] (mk h τ)
      refine a_if_eq (tgt := 34) dX8_aim_12 (by decide) (fun _ => ?_) (fun c => absurd c (by decide))
      refine a_iload_n (j := 1) dX8_aim_34 rfl rfl ?_
      refine a_iconst dX8_aim_35 ⟨by decide, by decide⟩ ?_
      refine a_icmp_ne (tgt := 69) dX8_aim_36 (by decide) (fun c36_5 => ?_) (fun c36_5 => absurd c36_5 (by omega))
      refine a_ldc (z := (-1000000001)) dX8_aim_69 kwX8_72 ⟨by decide, by decide, by decide⟩ ?_
      exact a_iret dX8_aim_71 rfl (k5 c1_1 t9_4 c36_5)
set_option maxHeartbeats 8000000 in
theorem c_X8_trim {γ : GT} {d : Nat} {n : Int} {h : Nat → Nat → Int} {τ : List AC} {Post : Option AV → List AC → Prop} (hd : 2 ≤ d) {v1 : Int} (e1 : h 84 1 = v1) (hT : 0 ≤ v1 ∧ v1 ≤ 96) (k1 : (0 ≤ n ∧ n ≤ v1) → Post (some (vI n)) (mk (up2 h 84 1 n) τ)) (k2 : (¬ (0 ≤ n ∧ n ≤ v1)) → Post (some (vI (-1000000001))) (mk h τ)) : Cj γ mX8_trim d 0 0 [vA 0, vI n] (mk h τ) Post := by
  refine c_of (by decide) (Nat.le_of_ble_eq_true rfl) ?_
  show Aj γ mX8_trim d 0 0 Post 0 [(0, vA 0), (1, vI n)] [] (mk h τ)
  refine a_iload_n (j := 1) dX8_trim_0 rfl rfl ?_
  refine a_iconst dX8_trim_1 ⟨by decide, by decide⟩ ?_
  refine a_aload_n (j := 0) dX8_trim_2 rfl rfl (Nat.le_of_ble_eq_true rfl) ?_
  refine b_getp (a := 0) (p := 84) dX8_trim_3 fwX8_46 (by decide) rfl (by decide) rfl rfl ?_
  refine b_get (a := 84) (z := v1) (t := 0) dX8_trim_6 fwX8_219 (by decide) rfl (by decide) rfl rfl e1 ?_
  refine a_callS (d' := d - 1) (mc' := 0) (ms' := 0) (mc1 := 0) (ms1 := 0) (st := []) [vI n, vI 0, vI v1] dX8_trim_9 mwX8_within lkX8_68 rfl (Nat.le_of_ble_eq_true rfl) (by omega) rfl rfl (c_X8_within  (by omega)    (fun t9_1 => ?_) (fun t9_1 => ?_))
  · have t9_1 : 0 ≤ n ∧ n ≤ v1 := t9_1
    show Aj γ mX8_trim d 0 0 Post 12 [(0, vA 0), (1, vI n)] [vI 1] (mk h τ)
    refine a_if_ne (tgt := 18) dX8_trim_12 (by decide) (fun _ => ?_) (fun c => absurd c (by decide))
    refine a_aload_n (j := 0) dX8_trim_18 rfl rfl (Nat.le_of_ble_eq_true rfl) ?_
    refine b_getp (a := 0) (p := 84) dX8_trim_19 fwX8_46 (by decide) rfl (by decide) rfl rfl ?_
    refine a_iload_n (j := 1) dX8_trim_22 rfl rfl ?_
    refine b_put (a := 84) (v := vI n) dX8_trim_23 pwX8_219 (fun h => nomatch h) (by decide) rfl (by decide) rfl rfl (fit_int _) ?_
    show Aj γ mX8_trim d 0 0 Post 26 [(0, vA 0), (1, vI n)] [] (mk (up2 h 84 1 n) τ)
    refine a_iload_n (j := 1) dX8_trim_26 rfl rfl ?_
    exact a_iret dX8_trim_27 rfl (k1 t9_1)
  · have t9_1 : ¬ (0 ≤ n ∧ n ≤ v1) := t9_1
    show Aj γ mX8_trim d 0 0 Post 12 [(0, vA 0), (1, vI n)] [vI 0] (mk h τ)
    refine a_if_ne (tgt := 18) dX8_trim_12 (by decide) (fun c => absurd c (by decide)) (fun _ => ?_)
    refine a_ldc (z := (-1000000001)) dX8_trim_15 kwX8_72 ⟨by decide, by decide, by decide⟩ ?_
    exact a_iret dX8_trim_17 rfl (k2 t9_1)
set_option maxHeartbeats 8000000 in
theorem c_X8_guest {γ : GT} {d : Nat} {s m : Int} {h : Nat → Nat → Int} {τ : List AC} {Post : Option AV → List AC → Prop} (hd : 2 ≤ d) {v1 : Int} (e1 : h 1 1 = v1) {v2 : Int} (e2 : h 1 12 = v2) (hS : 0 ≤ v1 ∧ v1 ≤ 6) (hG : 0 ≤ v2 ∧ v2 ≤ 10) (k1 : (0 ≤ s ∧ s < v1) → (0 ≤ m ∧ m ≤ 1439) → (v2 < 10) → Post (some (vI ((v2 + 1) - 1))) (mk (up2 (up2 (up2 h 6 (Int.toNat v2) s) 7 (Int.toNat v2) m) 1 12 (v2 + 1)) τ)) (k2 : (0 ≤ s ∧ s < v1) → (0 ≤ m ∧ m ≤ 1439) → (¬ v2 < 10) → Post (some (vI (-1000000003))) (mk h τ)) (k3 : (0 ≤ s ∧ s < v1) → (¬ (0 ≤ m ∧ m ≤ 1439)) → Post (some (vI (-1000000001))) (mk h τ)) (k4 : (¬ (0 ≤ s ∧ s < v1)) → Post (some (vI (-1000000001))) (mk h τ)) : Cj γ mX8_guest d 0 0 [vA 0, vI s, vI m] (mk h τ) Post := by
  refine c_of (by decide) (Nat.le_of_ble_eq_true rfl) ?_
  show Aj γ mX8_guest d 0 0 Post 0 [(0, vA 0), (1, vI s), (2, vI m)] [] (mk h τ)
  refine a_aload_n (j := 0) dX8_guest_0 rfl rfl (Nat.le_of_ble_eq_true rfl) ?_
  refine b_getp (a := 0) (p := 1) dX8_guest_1 fwX8_14 (by decide) rfl (by decide) rfl rfl ?_
  refine a_iload_n (j := 1) dX8_guest_4 rfl rfl ?_
  refine b_callV (d' := d - 1) (mc' := 0) (ms' := 0) (mc1 := 0) (ms1 := 0) (st := []) (b := 1) [vI s] dX8_guest_5 mwX7_isStop lkX8_84 (by decide) rfl rc_X7 rfl (Nat.le_of_ble_eq_true rfl) (by omega) rfl rfl (c_X7_isStop (v1 := v1) (by omega) (Or.inl rfl) e1 (show 0 ≤ v1 ∧ v1 ≤ 6 by omega) (fun t5_1 => ?_) (fun t5_1 => ?_))
  · have t5_1 : 0 ≤ s ∧ s < v1 := t5_1
    show Aj γ mX8_guest d 0 0 Post 8 [(0, vA 0), (1, vI s), (2, vI m)] [vI 1] (mk h τ)
    refine a_if_eq (tgt := 18) dX8_guest_8 (by decide) (fun c => absurd c (by decide)) (fun _ => ?_)
    refine a_iload_n (j := 2) dX8_guest_11 rfl rfl ?_
    refine a_callS (d' := d - 1) (mc' := 0) (ms' := 0) (mc1 := 0) (ms1 := 0) (st := []) [vI m] dX8_guest_12 mwX8_isLeave lkX8_96 rfl (Nat.le_of_ble_eq_true rfl) (by omega) rfl rfl (c_X8_isLeave  (by omega)    (fun t12_2 => ?_) (fun t12_2 => ?_))
    · have t12_2 : 0 ≤ m ∧ m ≤ 1439 := t12_2
      show Aj γ mX8_guest d 0 0 Post 15 [(0, vA 0), (1, vI s), (2, vI m)] [vI 1] (mk h τ)
      refine a_if_ne (tgt := 21) dX8_guest_15 (by decide) (fun _ => ?_) (fun c => absurd c (by decide))
      refine a_aload_n (j := 0) dX8_guest_21 rfl rfl (Nat.le_of_ble_eq_true rfl) ?_
      refine b_getp (a := 0) (p := 1) dX8_guest_22 fwX8_14 (by decide) rfl (by decide) rfl rfl ?_
      refine b_get (a := 1) (z := v2) (t := 0) dX8_guest_25 fwX8_250 (by decide) rfl (by decide) rfl rfl e2 ?_
      refine a_bipush dX8_guest_28 ⟨by decide, by decide, by decide⟩ ?_
      refine a_icmp_lt (tgt := 36) dX8_guest_30 (by decide) (fun c30_3 => ?_) (fun c30_3 => ?_)
      · refine a_aload_n (j := 0) dX8_guest_36 rfl rfl (Nat.le_of_ble_eq_true rfl) ?_
        refine b_getp (a := 0) (p := 1) dX8_guest_37 fwX8_14 (by decide) rfl (by decide) rfl rfl ?_
        refine b_getp (a := 1) (p := 6) dX8_guest_40 fwX8_253 (by decide) rfl (by decide) rfl rfl ?_
        refine a_aload_n (j := 0) dX8_guest_43 rfl rfl (Nat.le_of_ble_eq_true rfl) ?_
        refine b_getp (a := 0) (p := 1) dX8_guest_44 fwX8_14 (by decide) rfl (by decide) rfl rfl ?_
        refine b_get (a := 1) (z := v2) (t := 0) dX8_guest_47 fwX8_250 (by decide) rfl (by decide) rfl rfl e2 ?_
        refine a_iload_n (j := 1) dX8_guest_50 rfl rfl ?_
        refine b_iastore (a := 6) (Int.toNat v2) dX8_guest_51 (by decide) rfl (by omega) (by omega) (sp_nil rfl _) ?_
        refine a_aload_n (j := 0) dX8_guest_52 rfl rfl (Nat.le_of_ble_eq_true rfl) ?_
        refine b_getp (a := 0) (p := 1) dX8_guest_53 fwX8_14 (by decide) rfl (by decide) rfl rfl ?_
        refine b_getp (a := 1) (p := 7) dX8_guest_56 fwX8_256 (by decide) rfl (by decide) rfl rfl ?_
        refine a_aload_n (j := 0) dX8_guest_59 rfl rfl (Nat.le_of_ble_eq_true rfl) ?_
        refine b_getp (a := 0) (p := 1) dX8_guest_60 fwX8_14 (by decide) rfl (by decide) rfl rfl ?_
        refine b_get (a := 1) (z := v2) (t := 0) dX8_guest_63 fwX8_250 (by decide) rfl (by decide) rfl rfl ((up2_ne (by omega)).trans e2) ?_
        refine a_iload_n (j := 2) dX8_guest_66 rfl rfl ?_
        refine b_iastore (a := 7) (Int.toNat v2) dX8_guest_67 (by decide) rfl (by omega) (by omega) (sp_nil rfl _) ?_
        refine a_aload_n (j := 0) dX8_guest_68 rfl rfl (Nat.le_of_ble_eq_true rfl) ?_
        refine b_getp (a := 0) (p := 1) dX8_guest_69 fwX8_14 (by decide) rfl (by decide) rfl rfl ?_
        refine a_dup dX8_guest_72 (fun h => nomatch h) ?_
        refine b_get (a := 1) (z := v2) (t := 0) dX8_guest_73 fwX8_250 (by decide) rfl (by decide) rfl rfl ((up2_ne (by omega)).trans ((up2_ne (by omega)).trans e2)) ?_
        refine a_iconst dX8_guest_76 ⟨by decide, by decide⟩ ?_
        refine a_iadd (z := (v2 + 1)) dX8_guest_77 (w_ok (by omega) (by omega)) ?_
        refine b_put (a := 1) (v := vI (v2 + 1)) dX8_guest_78 pwX8_250 (fun h => nomatch h) (by decide) rfl (by decide) rfl rfl (fit_int _) ?_
        show Aj γ mX8_guest d 0 0 Post 81 [(0, vA 0), (1, vI s), (2, vI m)] [] (mk (up2 (up2 (up2 h 6 (Int.toNat v2) s) 7 (Int.toNat v2) m) 1 12 (v2 + 1)) τ)
        refine a_aload_n (j := 0) dX8_guest_81 rfl rfl (Nat.le_of_ble_eq_true rfl) ?_
        refine b_getp (a := 0) (p := 1) dX8_guest_82 fwX8_14 (by decide) rfl (by decide) rfl rfl ?_
        refine b_get (a := 1) (z := (v2 + 1)) (t := 0) dX8_guest_85 fwX8_250 (by decide) rfl (by decide) rfl rfl up2_at ?_
        refine a_iconst dX8_guest_88 ⟨by decide, by decide⟩ ?_
        refine a_isub (z := ((v2 + 1) - 1)) dX8_guest_89 (w_ok (by omega) (by omega)) ?_
        exact a_iret dX8_guest_90 rfl (k1 t5_1 t12_2 c30_3)
      · refine a_ldc (z := (-1000000003)) dX8_guest_33 kwX8_77 ⟨by decide, by decide, by decide⟩ ?_
        exact a_iret dX8_guest_35 rfl (k2 t5_1 t12_2 c30_3)
    · have t12_2 : ¬ (0 ≤ m ∧ m ≤ 1439) := t12_2
      show Aj γ mX8_guest d 0 0 Post 15 [(0, vA 0), (1, vI s), (2, vI m)] [vI 0] (mk h τ)
      refine a_if_ne (tgt := 21) dX8_guest_15 (by decide) (fun c => absurd c (by decide)) (fun _ => ?_)
      refine a_ldc (z := (-1000000001)) dX8_guest_18 kwX8_72 ⟨by decide, by decide, by decide⟩ ?_
      exact a_iret dX8_guest_20 rfl (k3 t5_1 t12_2)
  · have t5_1 : ¬ (0 ≤ s ∧ s < v1) := t5_1
    show Aj γ mX8_guest d 0 0 Post 8 [(0, vA 0), (1, vI s), (2, vI m)] [vI 0] (mk h τ)
    refine a_if_eq (tgt := 18) dX8_guest_8 (by decide) (fun _ => ?_) (fun c => absurd c (by decide))
    refine a_ldc (z := (-1000000001)) dX8_guest_18 kwX8_72 ⟨by decide, by decide, by decide⟩ ?_
    exact a_iret dX8_guest_20 rfl (k4 t5_1)
set_option maxHeartbeats 8000000 in
theorem c_X8_part {γ : GT} {d : Nat}  {h : Nat → Nat → Int} {τ : List AC} {Post : Option AV → List AC → Prop} (hd : 2 ≤ d) {v1 : Int} (e1 : h 1 12 = v1) (k1 : Post (some (vI v1)) (mk (up2 h 1 12 0) τ)) : Cj γ mX8_part d 0 0 [vA 0] (mk h τ) Post := by
  refine c_of (by decide) (Nat.le_of_ble_eq_true rfl) ?_
  show Aj γ mX8_part d 0 0 Post 0 [(0, vA 0)] [] (mk h τ)
  refine a_aload_n (j := 0) dX8_part_0 rfl rfl (Nat.le_of_ble_eq_true rfl) ?_
  refine b_getp (a := 0) (p := 1) dX8_part_1 fwX8_14 (by decide) rfl (by decide) rfl rfl ?_
  refine b_get (a := 1) (z := v1) (t := 0) dX8_part_4 fwX8_250 (by decide) rfl (by decide) rfl rfl e1 ?_
  refine a_istore_n (lv' := [(1, vI v1), (0, vA 0)]) dX8_part_7 rfl (by decide) rfl ?_
  refine a_aload_n (j := 1) dX8_part_8 rfl rfl (Nat.le_of_ble_eq_true rfl) ?_
  refine b_getp (a := 0) (p := 1) dX8_part_9 fwX8_14 (by decide) rfl (by decide) rfl rfl ?_
  refine a_iconst dX8_part_12 ⟨by decide, by decide⟩ ?_
  refine b_put (a := 1) (v := vI 0) dX8_part_13 pwX8_250 (fun h => nomatch h) (by decide) rfl (by decide) rfl rfl (fit_int _) ?_
  show Aj γ mX8_part d 0 0 Post 16 [(1, vI v1), (0, vA 0)] [] (mk (up2 h 1 12 0) τ)
  refine a_iload_n (j := 0) dX8_part_16 rfl rfl ?_
  exact a_iret dX8_part_17 rfl k1
set_option maxHeartbeats 8000000 in
theorem c_X8_seed {γ : GT} {d : Nat} {v : Int} {h : Nat → Nat → Int} {τ : List AC} {Post : Option AV → List AC → Prop} (hd : 2 ≤ d) {v1 : Int} (e1 : h 1 15 = v1) (k1 : Post (some (vI v1)) (mk (up2 h 1 15 v) τ)) : Cj γ mX8_seed d 0 0 [vA 0, vI v] (mk h τ) Post := by
  refine c_of (by decide) (Nat.le_of_ble_eq_true rfl) ?_
  show Aj γ mX8_seed d 0 0 Post 0 [(0, vA 0), (1, vI v)] [] (mk h τ)
  refine a_aload_n (j := 0) dX8_seed_0 rfl rfl (Nat.le_of_ble_eq_true rfl) ?_
  refine b_getp (a := 0) (p := 1) dX8_seed_1 fwX8_14 (by decide) rfl (by decide) rfl rfl ?_
  refine b_get (a := 1) (z := v1) (t := 0) dX8_seed_4 fwX8_263 (by decide) rfl (by decide) rfl rfl e1 ?_
  refine a_istore_n (lv' := [(2, vI v1), (0, vA 0), (1, vI v)]) dX8_seed_7 rfl (by decide) rfl ?_
  refine a_aload_n (j := 1) dX8_seed_8 rfl rfl (Nat.le_of_ble_eq_true rfl) ?_
  refine b_getp (a := 0) (p := 1) dX8_seed_9 fwX8_14 (by decide) rfl (by decide) rfl rfl ?_
  refine a_iload_n (j := 2) dX8_seed_12 rfl rfl ?_
  refine b_put (a := 1) (v := vI v) dX8_seed_13 pwX8_263 (fun h => nomatch h) (by decide) rfl (by decide) rfl rfl (fit_int _) ?_
  show Aj γ mX8_seed d 0 0 Post 16 [(2, vI v1), (0, vA 0), (1, vI v)] [] (mk (up2 h 1 15 v) τ)
  refine a_iload_n (j := 0) dX8_seed_16 rfl rfl ?_
  exact a_iret dX8_seed_17 rfl k1
set_option maxHeartbeats 8000000 in
theorem c_X8_tell {γ : GT} {d : Nat} {v : Int} {h : Nat → Nat → Int} {τ : List AC} {Post : Option AV → List AC → Prop} (hd : 2 ≤ d) {v1 : Int} (e1 : h 0 12 = v1) (hW : 0 ≤ v1 ∧ v1 ≤ 60) (k1 : (v1 < 60) → Post (some (vI (v1 + 1))) (mk (up2 (up2 h 89 (Int.toNat v1) v) 0 12 (v1 + 1)) τ)) (k2 : (¬ v1 < 60) → Post (some (vI (-1000000003))) (mk h τ)) : Cj γ mX8_tell d 0 0 [vA 0, vI v] (mk h τ) Post := by
  refine c_of (by decide) (Nat.le_of_ble_eq_true rfl) ?_
  show Aj γ mX8_tell d 0 0 Post 0 [(0, vA 0), (1, vI v)] [] (mk h τ)
  refine a_aload_n (j := 0) dX8_tell_0 rfl rfl (Nat.le_of_ble_eq_true rfl) ?_
  refine b_get (a := 0) (z := v1) (t := 0) dX8_tell_1 fwX8_322 (by decide) rfl (by decide) rfl rfl e1 ?_
  refine a_bipush dX8_tell_4 ⟨by decide, by decide, by decide⟩ ?_
  refine a_icmp_lt (tgt := 12) dX8_tell_6 (by decide) (fun c6_1 => ?_) (fun c6_1 => ?_)
  · refine a_aload_n (j := 0) dX8_tell_12 rfl rfl (Nat.le_of_ble_eq_true rfl) ?_
    refine b_getp (a := 0) (p := 89) dX8_tell_13 fwX8_62 (by decide) rfl (by decide) rfl rfl ?_
    refine a_aload_n (j := 0) dX8_tell_16 rfl rfl (Nat.le_of_ble_eq_true rfl) ?_
    refine b_get (a := 0) (z := v1) (t := 0) dX8_tell_17 fwX8_322 (by decide) rfl (by decide) rfl rfl e1 ?_
    refine a_iload_n (j := 1) dX8_tell_20 rfl rfl ?_
    refine b_iastore (a := 89) (Int.toNat v1) dX8_tell_21 (by decide) rfl (by omega) (by omega) (sp_nil rfl _) ?_
    refine a_aload_n (j := 0) dX8_tell_22 rfl rfl (Nat.le_of_ble_eq_true rfl) ?_
    refine a_dup dX8_tell_23 (fun h => nomatch h) ?_
    refine b_get (a := 0) (z := v1) (t := 0) dX8_tell_24 fwX8_322 (by decide) rfl (by decide) rfl rfl ((up2_ne (by omega)).trans e1) ?_
    refine a_iconst dX8_tell_27 ⟨by decide, by decide⟩ ?_
    refine a_iadd (z := (v1 + 1)) dX8_tell_28 (w_ok (by omega) (by omega)) ?_
    refine b_put (a := 0) (v := vI (v1 + 1)) dX8_tell_29 pwX8_322 (fun h => nomatch h) (by decide) rfl (by decide) rfl rfl (fit_int _) ?_
    show Aj γ mX8_tell d 0 0 Post 32 [(0, vA 0), (1, vI v)] [] (mk (up2 (up2 h 89 (Int.toNat v1) v) 0 12 (v1 + 1)) τ)
    refine a_aload_n (j := 0) dX8_tell_32 rfl rfl (Nat.le_of_ble_eq_true rfl) ?_
    refine b_get (a := 0) (z := (v1 + 1)) (t := 0) dX8_tell_33 fwX8_322 (by decide) rfl (by decide) rfl rfl up2_at ?_
    exact a_iret dX8_tell_36 rfl (k1 c6_1)
  · refine a_ldc (z := (-1000000003)) dX8_tell_9 kwX8_77 ⟨by decide, by decide, by decide⟩ ?_
    exact a_iret dX8_tell_11 rfl (k2 c6_1)
set_option maxHeartbeats 8000000 in
theorem c_X8_count {γ : GT} {d : Nat} {q : Int} {h : Nat → Nat → Int} {τ : List AC} {Post : Option AV → List AC → Prop} (hd : 2 ≤ d) {v1 : Int} (e1 : h 1 1 = v1) {v2 : Int} (e2 : h 1 3 = v2) {v3 : Int} (e3 : h 1 5 = v3) {v4 : Int} (e4 : h 1 7 = v4) {v5 : Int} (e5 : h 1 12 = v5) {v6 : Int} (e6 : h 1 9 = v6) {v7 : Int} (e7 : h 1 10 = v7) {v8 : Int} (e8 : h 1 11 = v8) {v9 : Int} (e9 : h 0 12 = v9) {v10 : Int} (e10 : h 84 1 = v10) {v11 : Int} (e11 : h 1 15 = v11) (k1 : (q = 0) → Post (some (vI v1)) (mk h τ)) (k2 : (q = 1) → Post (some (vI v2)) (mk h τ)) (k3 : (q = 2) → Post (some (vI v3)) (mk h τ)) (k4 : (q = 3) → Post (some (vI v4)) (mk h τ)) (k5 : (q = 4) → Post (some (vI v5)) (mk h τ)) (k6 : (q = 5) → Post (some (vI v6)) (mk h τ)) (k7 : (q = 6) → Post (some (vI v7)) (mk h τ)) (k8 : (q = 7) → Post (some (vI v8)) (mk h τ)) (k9 : (q = 8) → Post (some (vI v9)) (mk h τ)) (k10 : (q = 9) → Post (some (vI v10)) (mk h τ)) (k11 : (q = 10) → Post (some (vI v11)) (mk h τ)) (k12 : (¬ q = 0 ∧ ¬ q = 1 ∧ ¬ q = 2 ∧ ¬ q = 3 ∧ ¬ q = 4 ∧ ¬ q = 5 ∧ ¬ q = 6 ∧ ¬ q = 7 ∧ ¬ q = 8 ∧ ¬ q = 9 ∧ ¬ q = 10) → Post (some (vI (-1000000001))) (mk h τ)) : Cj γ mX8_count d 0 0 [vA 0, vI q] (mk h τ) Post := by
  refine c_of (by decide) (Nat.le_of_ble_eq_true rfl) ?_
  show Aj γ mX8_count d 0 0 Post 0 [(0, vA 0), (1, vI q)] [] (mk h τ)
  refine a_iload_n (j := 1) dX8_count_0 rfl rfl ?_
  rcases (show q = 0 ∨ q = 1 ∨ q = 2 ∨ q = 3 ∨ q = 4 ∨ q = 5 ∨ q = 6 ∨ q = 7 ∨ q = 8 ∨ q = 9 ∨ q = 10 ∨ (¬ q = 0 ∧ ¬ q = 1 ∧ ¬ q = 2 ∧ ¬ q = 3 ∧ ¬ q = 4 ∧ ¬ q = 5 ∧ ¬ q = 6 ∧ ¬ q = 7 ∧ ¬ q = 8 ∧ ¬ q = 9 ∧ ¬ q = 10) by omega) with c1_1 | c1_1 | c1_1 | c1_1 | c1_1 | c1_1 | c1_1 | c1_1 | c1_1 | c1_1 | c1_1 | c1_1
  · refine a_tblIn (tgt := 60) 0 dX8_count_1 ⟨by omega, by omega⟩ rfl (by decide) ?_
    refine a_aload_n (j := 0) dX8_count_60 rfl rfl (Nat.le_of_ble_eq_true rfl) ?_
    refine b_getp (a := 0) (p := 1) dX8_count_61 fwX8_14 (by decide) rfl (by decide) rfl rfl ?_
    refine b_get (a := 1) (z := v1) (t := 0) dX8_count_64 fwX8_73 (by decide) rfl (by decide) rfl rfl e1 ?_
    exact a_iret dX8_count_67 rfl (k1 c1_1)
  · refine a_tblIn (tgt := 68) 1 dX8_count_1 ⟨by omega, by omega⟩ rfl (by decide) ?_
    refine a_aload_n (j := 0) dX8_count_68 rfl rfl (Nat.le_of_ble_eq_true rfl) ?_
    refine b_getp (a := 0) (p := 1) dX8_count_69 fwX8_14 (by decide) rfl (by decide) rfl rfl ?_
    refine b_get (a := 1) (z := v2) (t := 0) dX8_count_72 fwX8_102 (by decide) rfl (by decide) rfl rfl e2 ?_
    exact a_iret dX8_count_75 rfl (k2 c1_1)
  · refine a_tblIn (tgt := 76) 2 dX8_count_1 ⟨by omega, by omega⟩ rfl (by decide) ?_
    refine a_aload_n (j := 0) dX8_count_76 rfl rfl (Nat.le_of_ble_eq_true rfl) ?_
    refine b_getp (a := 0) (p := 1) dX8_count_77 fwX8_14 (by decide) rfl (by decide) rfl rfl ?_
    refine b_get (a := 1) (z := v3) (t := 0) dX8_count_80 fwX8_232 (by decide) rfl (by decide) rfl rfl e3 ?_
    exact a_iret dX8_count_83 rfl (k3 c1_1)
  · refine a_tblIn (tgt := 84) 3 dX8_count_1 ⟨by omega, by omega⟩ rfl (by decide) ?_
    refine a_aload_n (j := 0) dX8_count_84 rfl rfl (Nat.le_of_ble_eq_true rfl) ?_
    refine b_getp (a := 0) (p := 1) dX8_count_85 fwX8_14 (by decide) rfl (by decide) rfl rfl ?_
    refine b_get (a := 1) (z := v4) (t := 0) dX8_count_88 fwX8_180 (by decide) rfl (by decide) rfl rfl e4 ?_
    exact a_iret dX8_count_91 rfl (k4 c1_1)
  · refine a_tblIn (tgt := 92) 4 dX8_count_1 ⟨by omega, by omega⟩ rfl (by decide) ?_
    refine a_aload_n (j := 0) dX8_count_92 rfl rfl (Nat.le_of_ble_eq_true rfl) ?_
    refine b_getp (a := 0) (p := 1) dX8_count_93 fwX8_14 (by decide) rfl (by decide) rfl rfl ?_
    refine b_get (a := 1) (z := v5) (t := 0) dX8_count_96 fwX8_250 (by decide) rfl (by decide) rfl rfl e5 ?_
    exact a_iret dX8_count_99 rfl (k5 c1_1)
  · refine a_tblIn (tgt := 100) 5 dX8_count_1 ⟨by omega, by omega⟩ rfl (by decide) ?_
    refine a_aload_n (j := 0) dX8_count_100 rfl rfl (Nat.le_of_ble_eq_true rfl) ?_
    refine b_getp (a := 0) (p := 1) dX8_count_101 fwX8_14 (by decide) rfl (by decide) rfl rfl ?_
    refine b_get (a := 1) (z := v6) (t := 0) dX8_count_104 fwX8_198 (by decide) rfl (by decide) rfl rfl e6 ?_
    exact a_iret dX8_count_107 rfl (k6 c1_1)
  · refine a_tblIn (tgt := 108) 6 dX8_count_1 ⟨by omega, by omega⟩ rfl (by decide) ?_
    refine a_aload_n (j := 0) dX8_count_108 rfl rfl (Nat.le_of_ble_eq_true rfl) ?_
    refine b_getp (a := 0) (p := 1) dX8_count_109 fwX8_14 (by decide) rfl (by decide) rfl rfl ?_
    refine b_get (a := 1) (z := v7) (t := 0) dX8_count_112 fwX8_201 (by decide) rfl (by decide) rfl rfl e7 ?_
    exact a_iret dX8_count_115 rfl (k7 c1_1)
  · refine a_tblIn (tgt := 116) 7 dX8_count_1 ⟨by omega, by omega⟩ rfl (by decide) ?_
    refine a_aload_n (j := 0) dX8_count_116 rfl rfl (Nat.le_of_ble_eq_true rfl) ?_
    refine b_getp (a := 0) (p := 1) dX8_count_117 fwX8_14 (by decide) rfl (by decide) rfl rfl ?_
    refine b_get (a := 1) (z := v8) (t := 0) dX8_count_120 fwX8_163 (by decide) rfl (by decide) rfl rfl e8 ?_
    exact a_iret dX8_count_123 rfl (k8 c1_1)
  · refine a_tblIn (tgt := 124) 8 dX8_count_1 ⟨by omega, by omega⟩ rfl (by decide) ?_
    refine a_aload_n (j := 0) dX8_count_124 rfl rfl (Nat.le_of_ble_eq_true rfl) ?_
    refine b_get (a := 0) (z := v9) (t := 0) dX8_count_125 fwX8_322 (by decide) rfl (by decide) rfl rfl e9 ?_
    exact a_iret dX8_count_128 rfl (k9 c1_1)
  · refine a_tblIn (tgt := 129) 9 dX8_count_1 ⟨by omega, by omega⟩ rfl (by decide) ?_
    refine a_aload_n (j := 0) dX8_count_129 rfl rfl (Nat.le_of_ble_eq_true rfl) ?_
    refine b_getp (a := 0) (p := 84) dX8_count_130 fwX8_46 (by decide) rfl (by decide) rfl rfl ?_
    refine b_get (a := 84) (z := v10) (t := 0) dX8_count_133 fwX8_219 (by decide) rfl (by decide) rfl rfl e10 ?_
    exact a_iret dX8_count_136 rfl (k10 c1_1)
  · refine a_tblIn (tgt := 137) 10 dX8_count_1 ⟨by omega, by omega⟩ rfl (by decide) ?_
    refine a_aload_n (j := 0) dX8_count_137 rfl rfl (Nat.le_of_ble_eq_true rfl) ?_
    refine b_getp (a := 0) (p := 1) dX8_count_138 fwX8_14 (by decide) rfl (by decide) rfl rfl ?_
    refine b_get (a := 1) (z := v11) (t := 0) dX8_count_141 fwX8_263 (by decide) rfl (by decide) rfl rfl e11 ?_
    exact a_iret dX8_count_144 rfl (k11 c1_1)
  · refine a_tblOut (tgt := 145) dX8_count_1 (by omega) (by decide) ?_
    refine a_ldc (z := (-1000000001)) dX8_count_145 kwX8_72 ⟨by decide, by decide, by decide⟩ ?_
    exact a_iret dX8_count_147 rfl (k12 c1_1)
set_option maxHeartbeats 8000000 in
theorem c_X8_hangs {γ : GT} {d : Nat} {t g : Int} {h : Nat → Nat → Int} {τ : List AC} {Post : Option AV → List AC → Prop} (hd : 2 ≤ d) {v1 : Int} (e1 : h 1 3 = v1) {v2 : Int} (e2 : h 0 3 = v2) {v3 : Int} (e3 : h (8 + 2 * (Int.toNat t)) 6 = v3) (hN : 0 ≤ v1 ∧ v1 ≤ 12) (hs : 0 ≤ v2 ∧ v2 ≤ 1000) (k1 : (0 ≤ t ∧ t < v1) → (g = (-1000000005)) → Post (some (vI v3)) (mk (up2 (up2 (up2 h (8 + 2 * (Int.toNat t)) 6 g) 0 3 (v2 + 1)) 1 0 (v2 + 1)) τ)) (k2 : (0 ≤ t ∧ t < v1) → (¬ g = (-1000000005)) → (0 ≤ g ∧ g ≤ (t - 1)) → Post (some (vI v3)) (mk (up2 (up2 (up2 h (8 + 2 * (Int.toNat t)) 6 g) 0 3 (v2 + 1)) 1 0 (v2 + 1)) τ)) (k3 : (0 ≤ t ∧ t < v1) → (¬ g = (-1000000005)) → (¬ (0 ≤ g ∧ g ≤ (t - 1))) → Post (some (vI (-1000000001))) (mk h τ)) (k4 : (¬ (0 ≤ t ∧ t < v1)) → Post (some (vI (-1000000001))) (mk h τ)) : Cj γ mX8_hangs d 0 0 [vA 0, vI t, vI g] (mk h τ) Post := by
  refine c_of (by decide) (Nat.le_of_ble_eq_true rfl) ?_
  show Aj γ mX8_hangs d 0 0 Post 0 [(0, vA 0), (1, vI t), (2, vI g)] [] (mk h τ)
  refine a_aload_n (j := 0) dX8_hangs_0 rfl rfl (Nat.le_of_ble_eq_true rfl) ?_
  refine b_getp (a := 0) (p := 1) dX8_hangs_1 fwX8_14 (by decide) rfl (by decide) rfl rfl ?_
  refine a_iload_n (j := 1) dX8_hangs_4 rfl rfl ?_
  refine b_callV (d' := d - 1) (mc' := 0) (ms' := 0) (mc1 := 0) (ms1 := 0) (st := []) (b := 1) [vI t] dX8_hangs_5 mwX7_isTrain lkX8_121 (by decide) rfl rc_X7 rfl (Nat.le_of_ble_eq_true rfl) (by omega) rfl rfl (c_X7_isTrain (v1 := v1) (by omega) (Or.inl rfl) e1 (show 0 ≤ v1 ∧ v1 ≤ 12 by omega) (fun t5_1 => ?_) (fun t5_1 => ?_))
  · have t5_1 : 0 ≤ t ∧ t < v1 := t5_1
    show Aj γ mX8_hangs d 0 0 Post 8 [(0, vA 0), (1, vI t), (2, vI g)] [vI 1] (mk h τ)
    refine a_if_eq (tgt := 28) dX8_hangs_8 (by decide) (fun c => absurd c (by decide)) (fun _ => ?_)
    refine a_iload_n (j := 2) dX8_hangs_11 rfl rfl ?_
    refine a_ldc (z := (-1000000005)) dX8_hangs_12 kwX8_159 ⟨by decide, by decide, by decide⟩ ?_
    refine a_icmp_eq (tgt := 31) dX8_hangs_14 (by decide) (fun c14_2 => ?_) (fun c14_2 => ?_)
    · refine a_aload_n (j := 0) dX8_hangs_31 rfl rfl (Nat.le_of_ble_eq_true rfl) ?_
      refine b_getp (a := 0) (p := 1) dX8_hangs_32 fwX8_14 (by decide) rfl (by decide) rfl rfl ?_
      refine b_getp (a := 1) (p := 3) dX8_hangs_35 fwX8_105 (by decide) rfl (by decide) rfl rfl ?_
      refine a_iload_n (j := 1) dX8_hangs_38 rfl rfl ?_
      refine b_aaloadp (a := 3) (p := (8 + 2 * (Int.toNat t))) (Int.toNat t) dX8_hangs_39 (by decide) rfl qa_18 (by omega) (by omega) (tr_a (Or.inl rfl : isWd 1) (show (Int.toNat t) < 12 by omega)) ?_
      refine b_get (a := (8 + 2 * (Int.toNat t))) (z := v3) (t := 0) dX8_hangs_40 fwX8_160 (by have := (tr_w (Or.inl rfl : isWd 1) (show (Int.toNat t) < 12 by omega)).1; omega) (tr_w (Or.inl rfl : isWd 1) (show (Int.toNat t) < 12 by omega)).2.1 (by decide) (tr_s (tr_w (Or.inl rfl : isWd 1) (show (Int.toNat t) < 12 by omega)) (by decide)) rfl e3 ?_
      refine a_istore_n (lv' := [(3, vI v3), (0, vA 0), (1, vI t), (2, vI g)]) dX8_hangs_43 rfl (by decide) rfl ?_
      refine a_aload_n (j := 1) dX8_hangs_44 rfl rfl (Nat.le_of_ble_eq_true rfl) ?_
      refine b_getp (a := 0) (p := 1) dX8_hangs_45 fwX8_14 (by decide) rfl (by decide) rfl rfl ?_
      refine b_getp (a := 1) (p := 3) dX8_hangs_48 fwX8_105 (by decide) rfl (by decide) rfl rfl ?_
      refine a_iload_n (j := 2) dX8_hangs_51 rfl rfl ?_
      refine b_aaloadp (a := 3) (p := (8 + 2 * (Int.toNat t))) (Int.toNat t) dX8_hangs_52 (by decide) rfl qa_18 (by omega) (by omega) (tr_a (Or.inl rfl : isWd 1) (show (Int.toNat t) < 12 by omega)) ?_
      refine a_iload_n (j := 3) dX8_hangs_53 rfl rfl ?_
      refine b_put (a := (8 + 2 * (Int.toNat t))) (v := vI g) dX8_hangs_54 pwX8_160 (fun h => nomatch h) (by have := (tr_w (Or.inl rfl : isWd 1) (show (Int.toNat t) < 12 by omega)).1; omega) (tr_w (Or.inl rfl : isWd 1) (show (Int.toNat t) < 12 by omega)).2.1 (by decide) (tr_s (tr_w (Or.inl rfl : isWd 1) (show (Int.toNat t) < 12 by omega)) (by decide)) rfl (fit_int _) ?_
      show Aj γ mX8_hangs d 0 0 Post 57 [(3, vI v3), (0, vA 0), (1, vI t), (2, vI g)] [] (mk (up2 h (8 + 2 * (Int.toNat t)) 6 g) τ)
      refine a_aload_n (j := 1) dX8_hangs_57 rfl rfl (Nat.le_of_ble_eq_true rfl) ?_
      refine b_callV (d' := d - 1) (mc' := 0) (ms' := 0) (mc1 := 0) (ms1 := 0) (st := []) (b := 0) [] dX8_hangs_58 mwX8_stampAnew lkX8_81 (by decide) rfl rc_X8 rfl (Nat.le_of_ble_eq_true rfl) (by omega) rfl rfl (c_X8_stampAnew (v1 := v2) (by omega)  ((up2_ne (by omega)).trans e2) (show 0 ≤ v2 ∧ v2 ≤ 1000 by omega) ?_)
      show Aj γ mX8_hangs d 0 0 Post 61 [(3, vI v3), (0, vA 0), (1, vI t), (2, vI g)] [] (mk (up2 (up2 (up2 h (8 + 2 * (Int.toNat t)) 6 g) 0 3 (v2 + 1)) 1 0 (v2 + 1)) τ)
      refine a_iload_n (j := 0) dX8_hangs_61 rfl rfl ?_
      exact a_iret dX8_hangs_62 rfl (k1 t5_1 c14_2)
    · refine a_iload_n (j := 2) dX8_hangs_17 rfl rfl ?_
      refine a_iconst dX8_hangs_18 ⟨by decide, by decide⟩ ?_
      refine a_iload_n (j := 1) dX8_hangs_19 rfl rfl ?_
      refine a_iconst dX8_hangs_20 ⟨by decide, by decide⟩ ?_
      refine a_isub (z := (t - 1)) dX8_hangs_21 (w_ok (by omega) (by omega)) ?_
      refine a_callS (d' := d - 1) (mc' := 0) (ms' := 0) (mc1 := 0) (ms1 := 0) (st := []) [vI g, vI 0, vI (t - 1)] dX8_hangs_22 mwX8_within lkX8_68 rfl (Nat.le_of_ble_eq_true rfl) (by omega) rfl rfl (c_X8_within  (by omega)    (fun t22_3 => ?_) (fun t22_3 => ?_))
      · have t22_3 : 0 ≤ g ∧ g ≤ (t - 1) := t22_3
        show Aj γ mX8_hangs d 0 0 Post 25 [(0, vA 0), (1, vI t), (2, vI g)] [vI 1] (mk h τ)
        refine a_if_ne (tgt := 31) dX8_hangs_25 (by decide) (fun _ => ?_) (fun c => absurd c (by decide))
        refine a_aload_n (j := 0) dX8_hangs_31 rfl rfl (Nat.le_of_ble_eq_true rfl) ?_
        refine b_getp (a := 0) (p := 1) dX8_hangs_32 fwX8_14 (by decide) rfl (by decide) rfl rfl ?_
        refine b_getp (a := 1) (p := 3) dX8_hangs_35 fwX8_105 (by decide) rfl (by decide) rfl rfl ?_
        refine a_iload_n (j := 1) dX8_hangs_38 rfl rfl ?_
        refine b_aaloadp (a := 3) (p := (8 + 2 * (Int.toNat t))) (Int.toNat t) dX8_hangs_39 (by decide) rfl qa_18 (by omega) (by omega) (tr_a (Or.inl rfl : isWd 1) (show (Int.toNat t) < 12 by omega)) ?_
        refine b_get (a := (8 + 2 * (Int.toNat t))) (z := v3) (t := 0) dX8_hangs_40 fwX8_160 (by have := (tr_w (Or.inl rfl : isWd 1) (show (Int.toNat t) < 12 by omega)).1; omega) (tr_w (Or.inl rfl : isWd 1) (show (Int.toNat t) < 12 by omega)).2.1 (by decide) (tr_s (tr_w (Or.inl rfl : isWd 1) (show (Int.toNat t) < 12 by omega)) (by decide)) rfl e3 ?_
        refine a_istore_n (lv' := [(3, vI v3), (0, vA 0), (1, vI t), (2, vI g)]) dX8_hangs_43 rfl (by decide) rfl ?_
        refine a_aload_n (j := 1) dX8_hangs_44 rfl rfl (Nat.le_of_ble_eq_true rfl) ?_
        refine b_getp (a := 0) (p := 1) dX8_hangs_45 fwX8_14 (by decide) rfl (by decide) rfl rfl ?_
        refine b_getp (a := 1) (p := 3) dX8_hangs_48 fwX8_105 (by decide) rfl (by decide) rfl rfl ?_
        refine a_iload_n (j := 2) dX8_hangs_51 rfl rfl ?_
        refine b_aaloadp (a := 3) (p := (8 + 2 * (Int.toNat t))) (Int.toNat t) dX8_hangs_52 (by decide) rfl qa_18 (by omega) (by omega) (tr_a (Or.inl rfl : isWd 1) (show (Int.toNat t) < 12 by omega)) ?_
        refine a_iload_n (j := 3) dX8_hangs_53 rfl rfl ?_
        refine b_put (a := (8 + 2 * (Int.toNat t))) (v := vI g) dX8_hangs_54 pwX8_160 (fun h => nomatch h) (by have := (tr_w (Or.inl rfl : isWd 1) (show (Int.toNat t) < 12 by omega)).1; omega) (tr_w (Or.inl rfl : isWd 1) (show (Int.toNat t) < 12 by omega)).2.1 (by decide) (tr_s (tr_w (Or.inl rfl : isWd 1) (show (Int.toNat t) < 12 by omega)) (by decide)) rfl (fit_int _) ?_
        show Aj γ mX8_hangs d 0 0 Post 57 [(3, vI v3), (0, vA 0), (1, vI t), (2, vI g)] [] (mk (up2 h (8 + 2 * (Int.toNat t)) 6 g) τ)
        refine a_aload_n (j := 1) dX8_hangs_57 rfl rfl (Nat.le_of_ble_eq_true rfl) ?_
        refine b_callV (d' := d - 1) (mc' := 0) (ms' := 0) (mc1 := 0) (ms1 := 0) (st := []) (b := 0) [] dX8_hangs_58 mwX8_stampAnew lkX8_81 (by decide) rfl rc_X8 rfl (Nat.le_of_ble_eq_true rfl) (by omega) rfl rfl (c_X8_stampAnew (v1 := v2) (by omega)  ((up2_ne (by omega)).trans e2) (show 0 ≤ v2 ∧ v2 ≤ 1000 by omega) ?_)
        show Aj γ mX8_hangs d 0 0 Post 61 [(3, vI v3), (0, vA 0), (1, vI t), (2, vI g)] [] (mk (up2 (up2 (up2 h (8 + 2 * (Int.toNat t)) 6 g) 0 3 (v2 + 1)) 1 0 (v2 + 1)) τ)
        refine a_iload_n (j := 0) dX8_hangs_61 rfl rfl ?_
        exact a_iret dX8_hangs_62 rfl (k2 t5_1 c14_2 t22_3)
      · have t22_3 : ¬ (0 ≤ g ∧ g ≤ (t - 1)) := t22_3
        show Aj γ mX8_hangs d 0 0 Post 25 [(0, vA 0), (1, vI t), (2, vI g)] [vI 0] (mk h τ)
        refine a_if_ne (tgt := 31) dX8_hangs_25 (by decide) (fun c => absurd c (by decide)) (fun _ => ?_)
        refine a_ldc (z := (-1000000001)) dX8_hangs_28 kwX8_72 ⟨by decide, by decide, by decide⟩ ?_
        exact a_iret dX8_hangs_30 rfl (k3 t5_1 c14_2 t22_3)
  · have t5_1 : ¬ (0 ≤ t ∧ t < v1) := t5_1
    show Aj γ mX8_hangs d 0 0 Post 8 [(0, vA 0), (1, vI t), (2, vI g)] [vI 0] (mk h τ)
    refine a_if_eq (tgt := 28) dX8_hangs_8 (by decide) (fun _ => ?_) (fun c => absurd c (by decide))
    refine a_ldc (z := (-1000000001)) dX8_hangs_28 kwX8_72 ⟨by decide, by decide, by decide⟩ ?_
    exact a_iret dX8_hangs_30 rfl (k4 t5_1)
set_option maxHeartbeats 8000000 in
theorem c_X8_as {γ : GT} {d : Nat} {t k : Int} {h : Nat → Nat → Int} {τ : List AC} {Post : Option AV → List AC → Prop} (hd : 3 ≤ d) {v1 : Int} (e1 : h 1 3 = v1) {v2 : Int} (e2 : h (8 + 2 * (Int.toNat t)) 0 = v2) {v3 : Int} (e3 : h (8 + 2 * (Int.toNat t)) 3 = v3) (hN : 0 ≤ v1 ∧ v1 ≤ 12) (hK : Im t v1 (0 ≤ v2 ∧ v2 ≤ 5)) (k1 : (0 ≤ t ∧ t < v1) → (0 ≤ k ∧ k ≤ 5) → ((k = 0 ∨ v2 = k ∨ (k = 1 ∧ v2 = 3) ∨ (k = 2 ∧ v2 = 4))) → Post (some (vI v3)) (mk h τ)) (k2 : (0 ≤ t ∧ t < v1) → (0 ≤ k ∧ k ≤ 5) → (¬ ((k = 0 ∨ v2 = k ∨ (k = 1 ∧ v2 = 3) ∨ (k = 2 ∧ v2 = 4)))) → Post (some (vI (-1000000012))) (mk h τ)) (k3 : (0 ≤ t ∧ t < v1) → (¬ (0 ≤ k ∧ k ≤ 5)) → Post (some (vI (-1000000001))) (mk h τ)) (k4 : (¬ (0 ≤ t ∧ t < v1)) → Post (some (vI (-1000000001))) (mk h τ)) : Cj γ mX8_as d 0 0 [vA 0, vI t, vI k] (mk h τ) Post := by
  refine c_of (by decide) (Nat.le_of_ble_eq_true rfl) ?_
  show Aj γ mX8_as d 0 0 Post 0 [(0, vA 0), (1, vI t), (2, vI k)] [] (mk h τ)
  refine a_aload_n (j := 0) dX8_as_0 rfl rfl (Nat.le_of_ble_eq_true rfl) ?_
  refine b_getp (a := 0) (p := 1) dX8_as_1 fwX8_14 (by decide) rfl (by decide) rfl rfl ?_
  refine a_iload_n (j := 1) dX8_as_4 rfl rfl ?_
  refine b_callV (d' := d - 1) (mc' := 0) (ms' := 0) (mc1 := 0) (ms1 := 0) (st := []) (b := 1) [vI t] dX8_as_5 mwX7_isTrain lkX8_121 (by decide) rfl rc_X7 rfl (Nat.le_of_ble_eq_true rfl) (by omega) rfl rfl (c_X7_isTrain (v1 := v1) (by omega) (Or.inl rfl) e1 (show 0 ≤ v1 ∧ v1 ≤ 12 by omega) (fun t5_1 => ?_) (fun t5_1 => ?_))
  · have t5_1 : 0 ≤ t ∧ t < v1 := t5_1
    show Aj γ mX8_as d 0 0 Post 8 [(0, vA 0), (1, vI t), (2, vI k)] [vI 1] (mk h τ)
    refine a_if_eq (tgt := 18) dX8_as_8 (by decide) (fun c => absurd c (by decide)) (fun _ => ?_)
    refine a_iload_n (j := 2) dX8_as_11 rfl rfl ?_
    refine a_callS (d' := d - 1) (mc' := 0) (ms' := 0) (mc1 := 0) (ms1 := 0) (st := []) [vI k] dX8_as_12 mwX8_isKind lkX8_93 rfl (Nat.le_of_ble_eq_true rfl) (by omega) rfl rfl (c_X8_isKind  (by omega)    (fun t12_2 => ?_) (fun t12_2 => ?_))
    · have t12_2 : 0 ≤ k ∧ k ≤ 5 := t12_2
      show Aj γ mX8_as d 0 0 Post 15 [(0, vA 0), (1, vI t), (2, vI k)] [vI 1] (mk h τ)
      refine a_if_ne (tgt := 21) dX8_as_15 (by decide) (fun _ => ?_) (fun c => absurd c (by decide))
      have hK := hK (by omega) (by omega)
      refine a_aload_n (j := 0) dX8_as_21 rfl rfl (Nat.le_of_ble_eq_true rfl) ?_
      refine b_getp (a := 0) (p := 1) dX8_as_22 fwX8_14 (by decide) rfl (by decide) rfl rfl ?_
      refine b_getp (a := 1) (p := 3) dX8_as_25 fwX8_105 (by decide) rfl (by decide) rfl rfl ?_
      refine a_iload_n (j := 1) dX8_as_28 rfl rfl ?_
      refine b_aaloadp (a := 3) (p := (8 + 2 * (Int.toNat t))) (Int.toNat t) dX8_as_29 (by decide) rfl qa_18 (by omega) (by omega) (tr_a (Or.inl rfl : isWd 1) (show (Int.toNat t) < 12 by omega)) ?_
      refine b_get (a := (8 + 2 * (Int.toNat t))) (z := v2) (t := 0) dX8_as_30 fwX8_141 (by have := (tr_w (Or.inl rfl : isWd 1) (show (Int.toNat t) < 12 by omega)).1; omega) (tr_w (Or.inl rfl : isWd 1) (show (Int.toNat t) < 12 by omega)).2.1 (by decide) (tr_s (tr_w (Or.inl rfl : isWd 1) (show (Int.toNat t) < 12 by omega)) (by decide)) rfl e2 ?_
      refine a_iload_n (j := 2) dX8_as_33 rfl rfl ?_
      refine a_callS (d' := d - 1) (mc' := 0) (ms' := 0) (mc1 := 0) (ms1 := 0) (st := []) [vI v2, vI k] dX8_as_34 mwX8_isUnder lkX8_144 rfl (Nat.le_of_ble_eq_true rfl) (by omega) rfl rfl (c_X8_isUnder  (by omega)   (show 0 ≤ v2 ∧ v2 ≤ 5 by omega) (fun t34_3 => ?_) (fun t34_3 => ?_))
      · have t34_3 : (k = 0 ∨ v2 = k ∨ (k = 1 ∧ v2 = 3) ∨ (k = 2 ∧ v2 = 4)) := t34_3
        show Aj γ mX8_as d 0 0 Post 37 [(0, vA 0), (1, vI t), (2, vI k)] [vI 1] (mk h τ)
        refine a_if_eq (tgt := 55) dX8_as_37 (by decide) (fun c => absurd c (by decide)) (fun _ => ?_)
        refine a_aload_n (j := 0) dX8_as_40 rfl rfl (Nat.le_of_ble_eq_true rfl) ?_
        refine b_getp (a := 0) (p := 1) dX8_as_41 fwX8_14 (by decide) rfl (by decide) rfl rfl ?_
        refine b_getp (a := 1) (p := 3) dX8_as_44 fwX8_105 (by decide) rfl (by decide) rfl rfl ?_
        refine a_iload_n (j := 1) dX8_as_47 rfl rfl ?_
        refine b_aaloadp (a := 3) (p := (8 + 2 * (Int.toNat t))) (Int.toNat t) dX8_as_48 (by decide) rfl qa_18 (by omega) (by omega) (tr_a (Or.inl rfl : isWd 1) (show (Int.toNat t) < 12 by omega)) ?_
        refine b_get (a := (8 + 2 * (Int.toNat t))) (z := v3) (t := 0) dX8_as_49 fwX8_115 (by have := (tr_w (Or.inl rfl : isWd 1) (show (Int.toNat t) < 12 by omega)).1; omega) (tr_w (Or.inl rfl : isWd 1) (show (Int.toNat t) < 12 by omega)).2.1 (by decide) (tr_s (tr_w (Or.inl rfl : isWd 1) (show (Int.toNat t) < 12 by omega)) (by decide)) rfl e3 ?_
        refine a_goto (tgt := 57) dX8_as_52 (by decide) ?_
        exact a_iret dX8_as_57 rfl (k1 t5_1 t12_2 t34_3)
      · have t34_3 : ¬ ((k = 0 ∨ v2 = k ∨ (k = 1 ∧ v2 = 3) ∨ (k = 2 ∧ v2 = 4))) := t34_3
        show Aj γ mX8_as d 0 0 Post 37 [(0, vA 0), (1, vI t), (2, vI k)] [vI 0] (mk h τ)
        refine a_if_eq (tgt := 55) dX8_as_37 (by decide) (fun _ => ?_) (fun c => absurd c (by decide))
        refine a_ldc (z := (-1000000012)) dX8_as_55 kwX8_148 ⟨by decide, by decide, by decide⟩ ?_
        exact a_iret dX8_as_57 rfl (k2 t5_1 t12_2 t34_3)
    · have t12_2 : ¬ (0 ≤ k ∧ k ≤ 5) := t12_2
      show Aj γ mX8_as d 0 0 Post 15 [(0, vA 0), (1, vI t), (2, vI k)] [vI 0] (mk h τ)
      refine a_if_ne (tgt := 21) dX8_as_15 (by decide) (fun c => absurd c (by decide)) (fun _ => ?_)
      refine a_ldc (z := (-1000000001)) dX8_as_18 kwX8_72 ⟨by decide, by decide, by decide⟩ ?_
      exact a_iret dX8_as_20 rfl (k3 t5_1 t12_2)
  · have t5_1 : ¬ (0 ≤ t ∧ t < v1) := t5_1
    show Aj γ mX8_as d 0 0 Post 8 [(0, vA 0), (1, vI t), (2, vI k)] [vI 0] (mk h τ)
    refine a_if_eq (tgt := 18) dX8_as_8 (by decide) (fun _ => ?_) (fun c => absurd c (by decide))
    refine a_ldc (z := (-1000000001)) dX8_as_18 kwX8_72 ⟨by decide, by decide, by decide⟩ ?_
    exact a_iret dX8_as_20 rfl (k4 t5_1)
set_option maxHeartbeats 8000000 in
theorem c_X8_putChances {γ : GT} {d : Nat} {t a b c : Int} {h : Nat → Nat → Int} {τ : List AC} {Post : Option AV → List AC → Prop} (hd : 1 ≤ d) {v1 : Int} (e1 : h 0 3 = v1) (hs : 0 ≤ v1 ∧ v1 ≤ 1000) (hT : 0 ≤ t ∧ t < 12) (hC : (0 ≤ a ∧ a ≤ 100) ∧ (0 ≤ b ∧ b ≤ 100) ∧ (0 ≤ c ∧ c ≤ 100)) (kQ : Post (some (vI (100 - a - b - c))) (mk (up2 (up2 (up2 (up2 (up2 (up2 h ((8 + 2 * (Int.toNat t)) + 1) 0 (((100 - a) - b) - c)) ((8 + 2 * (Int.toNat t)) + 1) 1 a) ((8 + 2 * (Int.toNat t)) + 1) 2 b) ((8 + 2 * (Int.toNat t)) + 1) 3 c) 0 3 (v1 + 1)) 1 0 (v1 + 1)) τ)) : Cj γ mX8_putChances d 0 0 [vA 0, vI t, vI a, vI b, vI c] (mk h τ) Post := by
  refine c_of (by decide) (Nat.le_of_ble_eq_true rfl) ?_
  show Aj γ mX8_putChances d 0 0 Post 0 [(0, vA 0), (1, vI t), (2, vI a), (3, vI b), (4, vI c)] [] (mk h τ)
  refine a_aload_n (j := 0) dX8_putChances_0 rfl rfl (Nat.le_of_ble_eq_true rfl) ?_
  refine b_getp (a := 0) (p := 1) dX8_putChances_1 fwX8_14 (by decide) rfl (by decide) rfl rfl ?_
  refine b_getp (a := 1) (p := 3) dX8_putChances_4 fwX8_105 (by decide) rfl (by decide) rfl rfl ?_
  refine a_iload_n (j := 1) dX8_putChances_7 rfl rfl ?_
  refine b_aaloadp (a := 3) (p := (8 + 2 * (Int.toNat t))) (Int.toNat t) dX8_putChances_8 (by decide) rfl qa_18 (by omega) (by omega) (tr_a (Or.inl rfl : isWd 1) (show (Int.toNat t) < 12 by omega)) ?_
  refine b_getp (a := (8 + 2 * (Int.toNat t))) (p := ((8 + 2 * (Int.toNat t)) + 1)) dX8_putChances_9 fwX8_128 (by have := (tr_w (Or.inl rfl : isWd 1) (show (Int.toNat t) < 12 by omega)).1; omega) (tr_w (Or.inl rfl : isWd 1) (show (Int.toNat t) < 12 by omega)).2.1 (by decide) (tr_p (tr_w (Or.inl rfl : isWd 1) (show (Int.toNat t) < 12 by omega))) rfl ?_
  refine a_astore (lv' := [(5, vA ((8 + 2 * (Int.toNat t)) + 1)), (0, vA 0), (1, vI t), (2, vI a), (3, vI b), (4, vI c)]) dX8_putChances_12 (by decide) (Nat.le_of_ble_eq_true rfl) rfl ?_
  refine a_aload (j := 0) dX8_putChances_14 rfl (Nat.le_of_ble_eq_true rfl) ?_
  refine a_iconst dX8_putChances_16 ⟨by decide, by decide⟩ ?_
  refine a_bipush dX8_putChances_17 ⟨by decide, by decide, by decide⟩ ?_
  refine a_iload_n (j := 3) dX8_putChances_19 rfl rfl ?_
  refine a_isub (z := (100 - a)) dX8_putChances_20 (w_ok (by omega) (by omega)) ?_
  refine a_iload_n (j := 4) dX8_putChances_21 rfl rfl ?_
  refine a_isub (z := ((100 - a) - b)) dX8_putChances_22 (w_ok (by omega) (by omega)) ?_
  refine a_iload (j := 5) dX8_putChances_23 rfl ?_
  refine a_isub (z := (((100 - a) - b) - c)) dX8_putChances_25 (w_ok (by omega) (by omega)) ?_
  refine b_iastore (a := ((8 + 2 * (Int.toNat t)) + 1)) 0 dX8_putChances_26 (tr_w (Or.inl rfl : isWd 1) (show (Int.toNat t) < 12 by omega)).1 (tr_w (Or.inl rfl : isWd 1) (show (Int.toNat t) < 12 by omega)).2.2.1 rfl (by decide) (tr_c (tr_w (Or.inl rfl : isWd 1) (show (Int.toNat t) < 12 by omega))) ?_
  refine a_aload (j := 0) dX8_putChances_27 rfl (Nat.le_of_ble_eq_true rfl) ?_
  refine a_iconst dX8_putChances_29 ⟨by decide, by decide⟩ ?_
  refine a_iload_n (j := 3) dX8_putChances_30 rfl rfl ?_
  refine b_iastore (a := ((8 + 2 * (Int.toNat t)) + 1)) 1 dX8_putChances_31 (tr_w (Or.inl rfl : isWd 1) (show (Int.toNat t) < 12 by omega)).1 (tr_w (Or.inl rfl : isWd 1) (show (Int.toNat t) < 12 by omega)).2.2.1 rfl (by decide) (tr_c (tr_w (Or.inl rfl : isWd 1) (show (Int.toNat t) < 12 by omega))) ?_
  refine a_aload (j := 0) dX8_putChances_32 rfl (Nat.le_of_ble_eq_true rfl) ?_
  refine a_iconst dX8_putChances_34 ⟨by decide, by decide⟩ ?_
  refine a_iload_n (j := 4) dX8_putChances_35 rfl rfl ?_
  refine b_iastore (a := ((8 + 2 * (Int.toNat t)) + 1)) 2 dX8_putChances_36 (tr_w (Or.inl rfl : isWd 1) (show (Int.toNat t) < 12 by omega)).1 (tr_w (Or.inl rfl : isWd 1) (show (Int.toNat t) < 12 by omega)).2.2.1 rfl (by decide) (tr_c (tr_w (Or.inl rfl : isWd 1) (show (Int.toNat t) < 12 by omega))) ?_
  refine a_aload (j := 0) dX8_putChances_37 rfl (Nat.le_of_ble_eq_true rfl) ?_
  refine a_iconst dX8_putChances_39 ⟨by decide, by decide⟩ ?_
  refine a_iload (j := 5) dX8_putChances_40 rfl ?_
  refine b_iastore (a := ((8 + 2 * (Int.toNat t)) + 1)) 3 dX8_putChances_42 (tr_w (Or.inl rfl : isWd 1) (show (Int.toNat t) < 12 by omega)).1 (tr_w (Or.inl rfl : isWd 1) (show (Int.toNat t) < 12 by omega)).2.2.1 rfl (by decide) (tr_c (tr_w (Or.inl rfl : isWd 1) (show (Int.toNat t) < 12 by omega))) ?_
  refine a_aload_n (j := 1) dX8_putChances_43 rfl rfl (Nat.le_of_ble_eq_true rfl) ?_
  refine b_callV (d' := d - 1) (mc' := 0) (ms' := 0) (mc1 := 0) (ms1 := 0) (st := []) (b := 0) [] dX8_putChances_44 mwX8_stampAnew lkX8_81 (by decide) rfl rc_X8 rfl (Nat.le_of_ble_eq_true rfl) (by omega) rfl rfl (c_X8_stampAnew (v1 := v1) (by omega)  ((up2_ne (by omega)).trans ((up2_ne (by omega)).trans ((up2_ne (by omega)).trans ((up2_ne (by omega)).trans e1)))) (show 0 ≤ v1 ∧ v1 ≤ 1000 by omega) ?_)
  show Aj γ mX8_putChances d 0 0 Post 47 [(5, vA ((8 + 2 * (Int.toNat t)) + 1)), (0, vA 0), (1, vI t), (2, vI a), (3, vI b), (4, vI c)] [] (mk (up2 (up2 (up2 (up2 (up2 (up2 h ((8 + 2 * (Int.toNat t)) + 1) 0 (((100 - a) - b) - c)) ((8 + 2 * (Int.toNat t)) + 1) 1 a) ((8 + 2 * (Int.toNat t)) + 1) 2 b) ((8 + 2 * (Int.toNat t)) + 1) 3 c) 0 3 (v1 + 1)) 1 0 (v1 + 1)) τ)
  refine a_aload (j := 0) dX8_putChances_47 rfl (Nat.le_of_ble_eq_true rfl) ?_
  refine a_iconst dX8_putChances_49 ⟨by decide, by decide⟩ ?_
  refine b_iaload (a := ((8 + 2 * (Int.toNat t)) + 1)) (z := (((100 - a) - b) - c)) 0 dX8_putChances_50 (tr_w (Or.inl rfl : isWd 1) (show (Int.toNat t) < 12 by omega)).1 (tr_w (Or.inl rfl : isWd 1) (show (Int.toNat t) < 12 by omega)).2.2.1 rfl (by decide) (tr_c (tr_w (Or.inl rfl : isWd 1) (show (Int.toNat t) < 12 by omega))) ((up2_ne (by omega)).trans ((up2_ne (by omega)).trans ((up2_ne (by omega)).trans ((up2_ne (by omega)).trans ((up2_ne (by omega)).trans up2_at))))) (fun r50_1 => ?_)
  exact a_iret dX8_putChances_51 rfl (post_v kQ (by omega))
set_option maxHeartbeats 8000000 in
theorem c_X8_chances {γ : GT} {d : Nat} {t a b c : Int} {h : Nat → Nat → Int} {τ : List AC} {Post : Option AV → List AC → Prop} (hd : 2 ≤ d) {v1 : Int} (e1 : h 1 3 = v1) {v2 : Int} (e2 : h 0 3 = v2) (hN : 0 ≤ v1 ∧ v1 ≤ 12) (hs : 0 ≤ v2 ∧ v2 ≤ 1000) (k1 : (0 ≤ t ∧ t < v1) → ((0 ≤ a ∧ a ≤ 100) ∧ (0 ≤ b ∧ b ≤ 100) ∧ (0 ≤ c ∧ c ≤ 100) ∧ a + b + c ≤ 100) → Post (some (vI (100 - a - b - c))) (mk (up2 (up2 (up2 (up2 (up2 (up2 h ((8 + 2 * (Int.toNat t)) + 1) 0 (((100 - a) - b) - c)) ((8 + 2 * (Int.toNat t)) + 1) 1 a) ((8 + 2 * (Int.toNat t)) + 1) 2 b) ((8 + 2 * (Int.toNat t)) + 1) 3 c) 0 3 (v2 + 1)) 1 0 (v2 + 1)) τ)) (k2 : (0 ≤ t ∧ t < v1) → (¬ ((0 ≤ a ∧ a ≤ 100) ∧ (0 ≤ b ∧ b ≤ 100) ∧ (0 ≤ c ∧ c ≤ 100) ∧ a + b + c ≤ 100)) → Post (some (vI (-1000000001))) (mk h τ)) (k3 : (¬ (0 ≤ t ∧ t < v1)) → Post (some (vI (-1000000001))) (mk h τ)) : Cj γ mX8_chances d 0 0 [vA 0, vI t, vI a, vI b, vI c] (mk h τ) Post := by
  refine c_of (by decide) (Nat.le_of_ble_eq_true rfl) ?_
  show Aj γ mX8_chances d 0 0 Post 0 [(0, vA 0), (1, vI t), (2, vI a), (3, vI b), (4, vI c)] [] (mk h τ)
  refine a_aload_n (j := 0) dX8_chances_0 rfl rfl (Nat.le_of_ble_eq_true rfl) ?_
  refine b_getp (a := 0) (p := 1) dX8_chances_1 fwX8_14 (by decide) rfl (by decide) rfl rfl ?_
  refine a_iload_n (j := 1) dX8_chances_4 rfl rfl ?_
  refine b_callV (d' := d - 1) (mc' := 0) (ms' := 0) (mc1 := 0) (ms1 := 0) (st := []) (b := 1) [vI t] dX8_chances_5 mwX7_isTrain lkX8_121 (by decide) rfl rc_X7 rfl (Nat.le_of_ble_eq_true rfl) (by omega) rfl rfl (c_X7_isTrain (v1 := v1) (by omega) (Or.inl rfl) e1 (show 0 ≤ v1 ∧ v1 ≤ 12 by omega) (fun t5_1 => ?_) (fun t5_1 => ?_))
  · have t5_1 : 0 ≤ t ∧ t < v1 := t5_1
    show Aj γ mX8_chances d 0 0 Post 8 [(0, vA 0), (1, vI t), (2, vI a), (3, vI b), (4, vI c)] [vI 1] (mk h τ)
    refine a_if_eq (tgt := 21) dX8_chances_8 (by decide) (fun c => absurd c (by decide)) (fun _ => ?_)
    refine a_iload_n (j := 2) dX8_chances_11 rfl rfl ?_
    refine a_iload_n (j := 3) dX8_chances_12 rfl rfl ?_
    refine a_iload (j := 4) dX8_chances_13 rfl ?_
    refine a_callS (d' := d - 1) (mc' := 0) (ms' := 0) (mc1 := 0) (ms1 := 0) (st := []) [vI a, vI b, vI c] dX8_chances_15 mwX8_areChances lkX8_152 rfl (Nat.le_of_ble_eq_true rfl) (by omega) rfl rfl (c_X8_areChances  (by omega)    (fun t15_2 => ?_) (fun t15_2 => ?_))
    · have t15_2 : (0 ≤ a ∧ a ≤ 100) ∧ (0 ≤ b ∧ b ≤ 100) ∧ (0 ≤ c ∧ c ≤ 100) ∧ a + b + c ≤ 100 := t15_2
      show Aj γ mX8_chances d 0 0 Post 18 [(0, vA 0), (1, vI t), (2, vI a), (3, vI b), (4, vI c)] [vI 1] (mk h τ)
      refine a_if_ne (tgt := 24) dX8_chances_18 (by decide) (fun _ => ?_) (fun c => absurd c (by decide))
      refine a_aload_n (j := 0) dX8_chances_24 rfl rfl (Nat.le_of_ble_eq_true rfl) ?_
      refine a_iload_n (j := 1) dX8_chances_25 rfl rfl ?_
      refine a_iload_n (j := 2) dX8_chances_26 rfl rfl ?_
      refine a_iload_n (j := 3) dX8_chances_27 rfl rfl ?_
      refine a_iload (j := 4) dX8_chances_28 rfl ?_
      refine b_callV (d' := d - 1) (mc' := 0) (ms' := 0) (mc1 := 0) (ms1 := 0) (st := []) (b := 0) [vI t, vI a, vI b, vI c] dX8_chances_30 mwX8_putChances lkX8_155 (by decide) rfl rc_X8 rfl (Nat.le_of_ble_eq_true rfl) (by omega) rfl rfl (c_X8_putChances (v1 := v2) (by omega)  e2 (show 0 ≤ v2 ∧ v2 ≤ 1000 by omega) (show 0 ≤ t ∧ t < 12 by omega) (show (0 ≤ a ∧ a ≤ 100) ∧ (0 ≤ b ∧ b ≤ 100) ∧ (0 ≤ c ∧ c ≤ 100) by omega) ?_)
      show Aj γ mX8_chances d 0 0 Post 33 [(0, vA 0), (1, vI t), (2, vI a), (3, vI b), (4, vI c)] [vI (100 - a - b - c)] (mk (up2 (up2 (up2 (up2 (up2 (up2 h ((8 + 2 * (Int.toNat t)) + 1) 0 (((100 - a) - b) - c)) ((8 + 2 * (Int.toNat t)) + 1) 1 a) ((8 + 2 * (Int.toNat t)) + 1) 2 b) ((8 + 2 * (Int.toNat t)) + 1) 3 c) 0 3 (v2 + 1)) 1 0 (v2 + 1)) τ)
      exact a_iret dX8_chances_33 rfl (k1 t5_1 t15_2)
    · have t15_2 : ¬ ((0 ≤ a ∧ a ≤ 100) ∧ (0 ≤ b ∧ b ≤ 100) ∧ (0 ≤ c ∧ c ≤ 100) ∧ a + b + c ≤ 100) := t15_2
      show Aj γ mX8_chances d 0 0 Post 18 [(0, vA 0), (1, vI t), (2, vI a), (3, vI b), (4, vI c)] [vI 0] (mk h τ)
      refine a_if_ne (tgt := 24) dX8_chances_18 (by decide) (fun c => absurd c (by decide)) (fun _ => ?_)
      refine a_ldc (z := (-1000000001)) dX8_chances_21 kwX8_72 ⟨by decide, by decide, by decide⟩ ?_
      exact a_iret dX8_chances_23 rfl (k2 t5_1 t15_2)
  · have t5_1 : ¬ (0 ≤ t ∧ t < v1) := t5_1
    show Aj γ mX8_chances d 0 0 Post 8 [(0, vA 0), (1, vI t), (2, vI a), (3, vI b), (4, vI c)] [vI 0] (mk h τ)
    refine a_if_eq (tgt := 21) dX8_chances_8 (by decide) (fun _ => ?_) (fun c => absurd c (by decide))
    refine a_ldc (z := (-1000000001)) dX8_chances_21 kwX8_72 ⟨by decide, by decide, by decide⟩ ?_
    exact a_iret dX8_chances_23 rfl (k3 t5_1)
set_option maxHeartbeats 8000000 in
theorem c_X8_sheet {γ : GT} {d : Nat} {s q n : Int} {h : Nat → Nat → Int} {τ : List AC} {Post : Option AV → List AC → Prop} (hd : 3 ≤ d) {f1 : Nat → Int} (r1 : h ((90 + 2 * (Int.toNat s)) + 1) = f1) (k1 : (0 ≤ s ∧ s ≤ 3) → ((-1) ≤ q ∧ q ≤ 1) → (¬ q = (-1)) → (n ≤ 24) → (0 ≤ n) → Post (some (vI n)) (mk (upR (up2 (up2 h (90 + 2 * (Int.toNat s)) 0 q) (90 + 2 * (Int.toNat s)) 1 n) ((90 + 2 * (Int.toNat s)) + 1) (fillR 0 24 f1)) τ)) (k2 : (0 ≤ s ∧ s ≤ 3) → ((-1) ≤ q ∧ q ≤ 1) → (¬ q = (-1)) → (n ≤ 24) → (¬ 0 ≤ n) → Post (some (vI (-1000000014))) (mk h τ)) (k3 : (0 ≤ s ∧ s ≤ 3) → ((-1) ≤ q ∧ q ≤ 1) → (¬ q = (-1)) → (¬ n ≤ 24) → Post (some (vI (-1000000001))) (mk h τ)) (k4 : (0 ≤ s ∧ s ≤ 3) → ((-1) ≤ q ∧ q ≤ 1) → (q = (-1)) → Post (some (vI 0)) (mk (upR (up2 (up2 h (90 + 2 * (Int.toNat s)) 0 (-1)) (90 + 2 * (Int.toNat s)) 1 0) ((90 + 2 * (Int.toNat s)) + 1) (fillR 0 24 f1)) τ)) (k5 : (0 ≤ s ∧ s ≤ 3) → (¬ ((-1) ≤ q ∧ q ≤ 1)) → Post (some (vI (-1000000001))) (mk h τ)) (k6 : (¬ (0 ≤ s ∧ s ≤ 3)) → Post (some (vI (-1000000001))) (mk h τ)) : Cj γ mX8_sheet d 0 0 [vA 0, vI s, vI q, vI n] (mk h τ) Post := by
  refine c_of (by decide) (Nat.le_of_ble_eq_true rfl) ?_
  show Aj γ mX8_sheet d 0 0 Post 0 [(0, vA 0), (1, vI s), (2, vI q), (3, vI n)] [] (mk h τ)
  refine a_iload_n (j := 1) dX8_sheet_0 rfl rfl ?_
  refine a_callS (d' := d - 1) (mc' := 0) (ms' := 0) (mc1 := 0) (ms1 := 0) (st := []) [vI s] dX8_sheet_1 mwX8_isSheet lkX8_266 rfl (Nat.le_of_ble_eq_true rfl) (by omega) rfl rfl (c_X8_isSheet  (by omega)    (fun t1_1 => ?_) (fun t1_1 => ?_))
  · have t1_1 : 0 ≤ s ∧ s ≤ 3 := t1_1
    show Aj γ mX8_sheet d 0 0 Post 4 [(0, vA 0), (1, vI s), (2, vI q), (3, vI n)] [vI 1] (mk h τ)
    refine a_if_eq (tgt := 16) dX8_sheet_4 (by decide) (fun c => absurd c (by decide)) (fun _ => ?_)
    refine a_iload_n (j := 2) dX8_sheet_7 rfl rfl ?_
    refine a_iconst dX8_sheet_8 ⟨by decide, by decide⟩ ?_
    refine a_iconst dX8_sheet_9 ⟨by decide, by decide⟩ ?_
    refine a_callS (d' := d - 1) (mc' := 0) (ms' := 0) (mc1 := 0) (ms1 := 0) (st := []) [vI q, vI (-1), vI 1] dX8_sheet_10 mwX8_within lkX8_68 rfl (Nat.le_of_ble_eq_true rfl) (by omega) rfl rfl (c_X8_within  (by omega)    (fun t10_2 => ?_) (fun t10_2 => ?_))
    · have t10_2 : (-1) ≤ q ∧ q ≤ 1 := t10_2
      show Aj γ mX8_sheet d 0 0 Post 13 [(0, vA 0), (1, vI s), (2, vI q), (3, vI n)] [vI 1] (mk h τ)
      refine a_if_ne (tgt := 19) dX8_sheet_13 (by decide) (fun _ => ?_) (fun c => absurd c (by decide))
      refine a_iload_n (j := 2) dX8_sheet_19 rfl rfl ?_
      refine a_iconst dX8_sheet_20 ⟨by decide, by decide⟩ ?_
      refine a_icmp_ne (tgt := 37) dX8_sheet_21 (by decide) (fun c21_3 => ?_) (fun c21_3 => ?_)
      · refine a_iload_n (j := 3) dX8_sheet_37 rfl rfl ?_
        refine a_bipush dX8_sheet_38 ⟨by decide, by decide, by decide⟩ ?_
        refine a_icmp_le (tgt := 46) dX8_sheet_40 (by decide) (fun c40_4 => ?_) (fun c40_4 => ?_)
        · refine a_iload_n (j := 3) dX8_sheet_46 rfl rfl ?_
          refine a_if_ge (tgt := 54) dX8_sheet_47 (by decide) (fun c47_5 => ?_) (fun c47_5 => ?_)
          · refine a_aload_n (j := 0) dX8_sheet_54 rfl rfl (Nat.le_of_ble_eq_true rfl) ?_
            refine b_getp (a := 0) (p := 87) dX8_sheet_55 fwX8_52 (by decide) rfl (by decide) rfl rfl ?_
            refine a_iload_n (j := 1) dX8_sheet_58 rfl rfl ?_
            refine b_aaloadp (a := 87) (p := (90 + 2 * (Int.toNat s))) (Int.toNat s) dX8_sheet_59 (by decide) rfl qa_15 (by omega) (by omega) (sh_i (show (Int.toNat s) < 4 by omega)).2 ?_
            refine a_iload_n (j := 2) dX8_sheet_60 rfl rfl ?_
            refine a_iload_n (j := 3) dX8_sheet_61 rfl rfl ?_
            refine b_callV (d' := d - 1) (mc' := 0) (ms' := 0) (mc1 := 0) (ms1 := 0) (st := []) (b := (90 + 2 * (Int.toNat s))) [vI q, vI n] dX8_sheet_62 mwX1_begin lkX8_269 (by have := (sh_i (show (Int.toNat s) < 4 by omega)).1.1; omega) (sh_i (show (Int.toNat s) < 4 by omega)).1.2.1 rc_X1 rfl (Nat.le_of_ble_eq_true rfl) (by omega) rfl rfl (c_X1_begin (f1 := f1) (by omega) (sh_i (show (Int.toNat s) < 4 by omega)).1 r1  ?_)
            show Aj γ mX8_sheet d 0 0 Post 65 [(0, vA 0), (1, vI s), (2, vI q), (3, vI n)] [] (mk (upR (up2 (up2 h (90 + 2 * (Int.toNat s)) 0 q) (90 + 2 * (Int.toNat s)) 1 n) ((90 + 2 * (Int.toNat s)) + 1) (fillR 0 24 f1)) τ)
            refine a_iload_n (j := 3) dX8_sheet_65 rfl rfl ?_
            exact a_iret dX8_sheet_66 rfl (k1 t1_1 t10_2 c21_3 c40_4 c47_5)
          · refine a_ldcw (z := (-1000000014)) dX8_sheet_50 kwX8_272 ⟨by decide, by decide, by decide⟩ ?_
            exact a_iret dX8_sheet_53 rfl (k2 t1_1 t10_2 c21_3 c40_4 c47_5)
        · refine a_ldc (z := (-1000000001)) dX8_sheet_43 kwX8_72 ⟨by decide, by decide, by decide⟩ ?_
          exact a_iret dX8_sheet_45 rfl (k3 t1_1 t10_2 c21_3 c40_4)
      · refine a_aload_n (j := 0) dX8_sheet_24 rfl rfl (Nat.le_of_ble_eq_true rfl) ?_
        refine b_getp (a := 0) (p := 87) dX8_sheet_25 fwX8_52 (by decide) rfl (by decide) rfl rfl ?_
        refine a_iload_n (j := 1) dX8_sheet_28 rfl rfl ?_
        refine b_aaloadp (a := 87) (p := (90 + 2 * (Int.toNat s))) (Int.toNat s) dX8_sheet_29 (by decide) rfl qa_15 (by omega) (by omega) (sh_i (show (Int.toNat s) < 4 by omega)).2 ?_
        refine a_iconst dX8_sheet_30 ⟨by decide, by decide⟩ ?_
        refine a_iconst dX8_sheet_31 ⟨by decide, by decide⟩ ?_
        refine b_callV (d' := d - 1) (mc' := 0) (ms' := 0) (mc1 := 0) (ms1 := 0) (st := []) (b := (90 + 2 * (Int.toNat s))) [vI (-1), vI 0] dX8_sheet_32 mwX1_begin lkX8_269 (by have := (sh_i (show (Int.toNat s) < 4 by omega)).1.1; omega) (sh_i (show (Int.toNat s) < 4 by omega)).1.2.1 rc_X1 rfl (Nat.le_of_ble_eq_true rfl) (by omega) rfl rfl (c_X1_begin (f1 := f1) (by omega) (sh_i (show (Int.toNat s) < 4 by omega)).1 r1  ?_)
        show Aj γ mX8_sheet d 0 0 Post 35 [(0, vA 0), (1, vI s), (2, vI q), (3, vI n)] [] (mk (upR (up2 (up2 h (90 + 2 * (Int.toNat s)) 0 (-1)) (90 + 2 * (Int.toNat s)) 1 0) ((90 + 2 * (Int.toNat s)) + 1) (fillR 0 24 f1)) τ)
        refine a_iconst dX8_sheet_35 ⟨by decide, by decide⟩ ?_
        exact a_iret dX8_sheet_36 rfl (k4 t1_1 t10_2 c21_3)
    · have t10_2 : ¬ ((-1) ≤ q ∧ q ≤ 1) := t10_2
      show Aj γ mX8_sheet d 0 0 Post 13 [(0, vA 0), (1, vI s), (2, vI q), (3, vI n)] [vI 0] (mk h τ)
      refine a_if_ne (tgt := 19) dX8_sheet_13 (by decide) (fun c => absurd c (by decide)) (fun _ => ?_)
      refine a_ldc (z := (-1000000001)) dX8_sheet_16 kwX8_72 ⟨by decide, by decide, by decide⟩ ?_
      exact a_iret dX8_sheet_18 rfl (k5 t1_1 t10_2)
  · have t1_1 : ¬ (0 ≤ s ∧ s ≤ 3) := t1_1
    show Aj γ mX8_sheet d 0 0 Post 4 [(0, vA 0), (1, vI s), (2, vI q), (3, vI n)] [vI 0] (mk h τ)
    refine a_if_eq (tgt := 16) dX8_sheet_4 (by decide) (fun _ => ?_) (fun c => absurd c (by decide))
    refine a_ldc (z := (-1000000001)) dX8_sheet_16 kwX8_72 ⟨by decide, by decide, by decide⟩ ?_
    exact a_iret dX8_sheet_18 rfl (k6 t1_1)
set_option maxHeartbeats 8000000 in
theorem c_X8_pour {γ : GT} {d : Nat} {s t : Int} {h : Nat → Nat → Int} {τ : List AC} {Post : Option AV → List AC → Prop} (hd : 2 ≤ d) {v1 : Int} (e1 : h 1 3 = v1) {v2 : Int} (e2 : h 0 3 = v2) {v3 : Int} (e3 : h (90 + 2 * (Int.toNat s)) 0 = v3) {v4 : Int} (e4 : h (90 + 2 * (Int.toNat s)) 1 = v4) {v5 : Int} (e5 : h ((90 + 2 * (Int.toNat s)) + 1) 0 = v5) {v6 : Int} (e6 : h ((90 + 2 * (Int.toNat s)) + 1) 1 = v6) {v7 : Int} (e7 : h ((90 + 2 * (Int.toNat s)) + 1) 2 = v7) (hN : 0 ≤ v1 ∧ v1 ≤ 12) (hs : 0 ≤ v2 ∧ v2 ≤ 1000) (k1 : (0 ≤ s ∧ s ≤ 3) → (0 ≤ t ∧ t < v1) → (¬ v3 = (-1)) → (3 ≤ v4) → (v5 = (-1000000005)) → Post (some (vI (-1000000012))) (mk h τ)) (k2 : (0 ≤ s ∧ s ≤ 3) → (0 ≤ t ∧ t < v1) → (¬ v3 = (-1)) → (3 ≤ v4) → (¬ v5 = (-1000000005)) → (v6 = (-1000000005)) → Post (some (vI (-1000000012))) (mk h τ)) (k3 : (0 ≤ s ∧ s ≤ 3) → (0 ≤ t ∧ t < v1) → (¬ v3 = (-1)) → (3 ≤ v4) → (¬ v5 = (-1000000005)) → (¬ v6 = (-1000000005)) → (¬ v7 = (-1000000005)) → ((0 ≤ v5 ∧ v5 ≤ 100) ∧ (0 ≤ v6 ∧ v6 ≤ 100) ∧ (0 ≤ v7 ∧ v7 ≤ 100) ∧ v5 + v6 + v7 ≤ 100) → Post (some (vI (100 - v5 - v6 - v7))) (mk (up2 (up2 (up2 (up2 (up2 (up2 h ((8 + 2 * (Int.toNat t)) + 1) 0 (((100 - v5) - v6) - v7)) ((8 + 2 * (Int.toNat t)) + 1) 1 v5) ((8 + 2 * (Int.toNat t)) + 1) 2 v6) ((8 + 2 * (Int.toNat t)) + 1) 3 v7) 0 3 (v2 + 1)) 1 0 (v2 + 1)) τ)) (k4 : (0 ≤ s ∧ s ≤ 3) → (0 ≤ t ∧ t < v1) → (¬ v3 = (-1)) → (3 ≤ v4) → (¬ v5 = (-1000000005)) → (¬ v6 = (-1000000005)) → (¬ v7 = (-1000000005)) → (¬ ((0 ≤ v5 ∧ v5 ≤ 100) ∧ (0 ≤ v6 ∧ v6 ≤ 100) ∧ (0 ≤ v7 ∧ v7 ≤ 100) ∧ v5 + v6 + v7 ≤ 100)) → Post (some (vI (-1000000001))) (mk h τ)) (k5 : (0 ≤ s ∧ s ≤ 3) → (0 ≤ t ∧ t < v1) → (¬ v3 = (-1)) → (3 ≤ v4) → (¬ v5 = (-1000000005)) → (¬ v6 = (-1000000005)) → (v7 = (-1000000005)) → Post (some (vI (-1000000012))) (mk h τ)) (k6 : (0 ≤ s ∧ s ≤ 3) → (0 ≤ t ∧ t < v1) → (¬ v3 = (-1)) → (¬ 3 ≤ v4) → Post (some (vI (-1000000013))) (mk h τ)) (k7 : (0 ≤ s ∧ s ≤ 3) → (0 ≤ t ∧ t < v1) → (v3 = (-1)) → Post (some (vI (-1000000011))) (mk h τ)) (k8 : (0 ≤ s ∧ s ≤ 3) → (¬ (0 ≤ t ∧ t < v1)) → Post (some (vI (-1000000001))) (mk h τ)) (k9 : (¬ (0 ≤ s ∧ s ≤ 3)) → Post (some (vI (-1000000001))) (mk h τ)) : Cj γ mX8_pour d 0 0 [vA 0, vI s, vI t] (mk h τ) Post := by
  refine c_of (by decide) (Nat.le_of_ble_eq_true rfl) ?_
  show Aj γ mX8_pour d 0 0 Post 0 [(0, vA 0), (1, vI s), (2, vI t)] [] (mk h τ)
  refine a_iload_n (j := 1) dX8_pour_0 rfl rfl ?_
  refine a_callS (d' := d - 1) (mc' := 0) (ms' := 0) (mc1 := 0) (ms1 := 0) (st := []) [vI s] dX8_pour_1 mwX8_isSheet lkX8_266 rfl (Nat.le_of_ble_eq_true rfl) (by omega) rfl rfl (c_X8_isSheet  (by omega)    (fun t1_1 => ?_) (fun t1_1 => ?_))
  · have t1_1 : 0 ≤ s ∧ s ≤ 3 := t1_1
    show Aj γ mX8_pour d 0 0 Post 4 [(0, vA 0), (1, vI s), (2, vI t)] [vI 1] (mk h τ)
    refine a_if_eq (tgt := 18) dX8_pour_4 (by decide) (fun c => absurd c (by decide)) (fun _ => ?_)
    refine a_aload_n (j := 0) dX8_pour_7 rfl rfl (Nat.le_of_ble_eq_true rfl) ?_
    refine b_getp (a := 0) (p := 1) dX8_pour_8 fwX8_14 (by decide) rfl (by decide) rfl rfl ?_
    refine a_iload_n (j := 2) dX8_pour_11 rfl rfl ?_
    refine b_callV (d' := d - 1) (mc' := 0) (ms' := 0) (mc1 := 0) (ms1 := 0) (st := []) (b := 1) [vI t] dX8_pour_12 mwX7_isTrain lkX8_121 (by decide) rfl rc_X7 rfl (Nat.le_of_ble_eq_true rfl) (by omega) rfl rfl (c_X7_isTrain (v1 := v1) (by omega) (Or.inl rfl) e1 (show 0 ≤ v1 ∧ v1 ≤ 12 by omega) (fun t12_2 => ?_) (fun t12_2 => ?_))
    · have t12_2 : 0 ≤ t ∧ t < v1 := t12_2
      show Aj γ mX8_pour d 0 0 Post 15 [(0, vA 0), (1, vI s), (2, vI t)] [vI 1] (mk h τ)
      refine a_if_ne (tgt := 21) dX8_pour_15 (by decide) (fun _ => ?_) (fun c => absurd c (by decide))
      refine a_aload_n (j := 0) dX8_pour_21 rfl rfl (Nat.le_of_ble_eq_true rfl) ?_
      refine b_getp (a := 0) (p := 87) dX8_pour_22 fwX8_52 (by decide) rfl (by decide) rfl rfl ?_
      refine a_iload_n (j := 1) dX8_pour_25 rfl rfl ?_
      refine b_aaloadp (a := 87) (p := (90 + 2 * (Int.toNat s))) (Int.toNat s) dX8_pour_26 (by decide) rfl qa_15 (by omega) (by omega) (sh_i (show (Int.toNat s) < 4 by omega)).2 ?_
      refine a_astore_n (lv' := [(3, vA (90 + 2 * (Int.toNat s))), (0, vA 0), (1, vI s), (2, vI t)]) dX8_pour_27 rfl (by decide) (Nat.le_of_ble_eq_true rfl) rfl ?_
      refine a_aload_n (j := 0) dX8_pour_28 rfl rfl (Nat.le_of_ble_eq_true rfl) ?_
      refine b_get (a := (90 + 2 * (Int.toNat s))) (z := v3) (t := 0) dX8_pour_29 fwX8_273 (by have := (sh_i (show (Int.toNat s) < 4 by omega)).1.1; omega) (sh_i (show (Int.toNat s) < 4 by omega)).1.2.1 (by decide) (sh_s (sh_i (show (Int.toNat s) < 4 by omega)).1 (by decide)) rfl e3 ?_
      refine a_iconst dX8_pour_32 ⟨by decide, by decide⟩ ?_
      refine a_icmp_ne (tgt := 40) dX8_pour_33 (by decide) (fun c33_3 => ?_) (fun c33_3 => ?_)
      · refine a_aload_n (j := 0) dX8_pour_40 rfl rfl (Nat.le_of_ble_eq_true rfl) ?_
        refine b_get (a := (90 + 2 * (Int.toNat s))) (z := v4) (t := 0) dX8_pour_41 fwX8_286 (by have := (sh_i (show (Int.toNat s) < 4 by omega)).1.1; omega) (sh_i (show (Int.toNat s) < 4 by omega)).1.2.1 (by decide) (sh_s (sh_i (show (Int.toNat s) < 4 by omega)).1 (by decide)) rfl e4 ?_
        refine a_iconst dX8_pour_44 ⟨by decide, by decide⟩ ?_
        refine a_icmp_ge (tgt := 52) dX8_pour_45 (by decide) (fun c45_4 => ?_) (fun c45_4 => ?_)
        · refine a_aload_n (j := 0) dX8_pour_52 rfl rfl (Nat.le_of_ble_eq_true rfl) ?_
          refine b_getp (a := (90 + 2 * (Int.toNat s))) (p := ((90 + 2 * (Int.toNat s)) + 1)) dX8_pour_53 fwX8_281 (by have := (sh_i (show (Int.toNat s) < 4 by omega)).1.1; omega) (sh_i (show (Int.toNat s) < 4 by omega)).1.2.1 (by decide) (sh_p (sh_i (show (Int.toNat s) < 4 by omega)).1) rfl ?_
          refine a_iconst dX8_pour_56 ⟨by decide, by decide⟩ ?_
          refine b_iaload (a := ((90 + 2 * (Int.toNat s)) + 1)) (z := v5) 0 dX8_pour_57 (sh_i (show (Int.toNat s) < 4 by omega)).1.1 (sh_i (show (Int.toNat s) < 4 by omega)).1.2.2.1 rfl (by decide) (sh_c (sh_i (show (Int.toNat s) < 4 by omega)).1) e5 (fun r57_5 => ?_)
          refine a_istore (lv' := [(4, vI v5), (3, vA (90 + 2 * (Int.toNat s))), (0, vA 0), (1, vI s), (2, vI t)]) dX8_pour_58 (by decide) rfl ?_
          refine a_aload_n (j := 1) dX8_pour_60 rfl rfl (Nat.le_of_ble_eq_true rfl) ?_
          refine b_getp (a := (90 + 2 * (Int.toNat s))) (p := ((90 + 2 * (Int.toNat s)) + 1)) dX8_pour_61 fwX8_281 (by have := (sh_i (show (Int.toNat s) < 4 by omega)).1.1; omega) (sh_i (show (Int.toNat s) < 4 by omega)).1.2.1 (by decide) (sh_p (sh_i (show (Int.toNat s) < 4 by omega)).1) rfl ?_
          refine a_iconst dX8_pour_64 ⟨by decide, by decide⟩ ?_
          refine b_iaload (a := ((90 + 2 * (Int.toNat s)) + 1)) (z := v6) 1 dX8_pour_65 (sh_i (show (Int.toNat s) < 4 by omega)).1.1 (sh_i (show (Int.toNat s) < 4 by omega)).1.2.2.1 rfl (by decide) (sh_c (sh_i (show (Int.toNat s) < 4 by omega)).1) e6 (fun r65_6 => ?_)
          refine a_istore (lv' := [(5, vI v6), (4, vI v5), (3, vA (90 + 2 * (Int.toNat s))), (0, vA 0), (1, vI s), (2, vI t)]) dX8_pour_66 (by decide) rfl ?_
          refine a_aload_n (j := 2) dX8_pour_68 rfl rfl (Nat.le_of_ble_eq_true rfl) ?_
          refine b_getp (a := (90 + 2 * (Int.toNat s))) (p := ((90 + 2 * (Int.toNat s)) + 1)) dX8_pour_69 fwX8_281 (by have := (sh_i (show (Int.toNat s) < 4 by omega)).1.1; omega) (sh_i (show (Int.toNat s) < 4 by omega)).1.2.1 (by decide) (sh_p (sh_i (show (Int.toNat s) < 4 by omega)).1) rfl ?_
          refine a_iconst dX8_pour_72 ⟨by decide, by decide⟩ ?_
          refine b_iaload (a := ((90 + 2 * (Int.toNat s)) + 1)) (z := v7) 2 dX8_pour_73 (sh_i (show (Int.toNat s) < 4 by omega)).1.1 (sh_i (show (Int.toNat s) < 4 by omega)).1.2.2.1 rfl (by decide) (sh_c (sh_i (show (Int.toNat s) < 4 by omega)).1) e7 (fun r73_7 => ?_)
          refine a_istore (lv' := [(6, vI v7), (5, vI v6), (4, vI v5), (3, vA (90 + 2 * (Int.toNat s))), (0, vA 0), (1, vI s), (2, vI t)]) dX8_pour_74 (by decide) rfl ?_
          refine a_iload (j := 2) dX8_pour_76 rfl ?_
          refine a_ldc (z := (-1000000005)) dX8_pour_78 kwX8_159 ⟨by decide, by decide, by decide⟩ ?_
          refine a_icmp_eq (tgt := 97) dX8_pour_80 (by decide) (fun c80_8 => ?_) (fun c80_8 => ?_)
          · refine a_ldc (z := (-1000000012)) dX8_pour_97 kwX8_148 ⟨by decide, by decide, by decide⟩ ?_
            exact a_iret dX8_pour_99 rfl (k1 t1_1 t12_2 c33_3 c45_4 c80_8)
          · refine a_iload (j := 1) dX8_pour_83 rfl ?_
            refine a_ldc (z := (-1000000005)) dX8_pour_85 kwX8_159 ⟨by decide, by decide, by decide⟩ ?_
            refine a_icmp_eq (tgt := 97) dX8_pour_87 (by decide) (fun c87_9 => ?_) (fun c87_9 => ?_)
            · refine a_ldc (z := (-1000000012)) dX8_pour_97 kwX8_148 ⟨by decide, by decide, by decide⟩ ?_
              exact a_iret dX8_pour_99 rfl (k2 t1_1 t12_2 c33_3 c45_4 c80_8 c87_9)
            · refine a_iload (j := 0) dX8_pour_90 rfl ?_
              refine a_ldc (z := (-1000000005)) dX8_pour_92 kwX8_159 ⟨by decide, by decide, by decide⟩ ?_
              refine a_icmp_ne (tgt := 100) dX8_pour_94 (by decide) (fun c94_10 => ?_) (fun c94_10 => ?_)
              · refine a_iload (j := 2) dX8_pour_100 rfl ?_
                refine a_iload (j := 1) dX8_pour_102 rfl ?_
                refine a_iload (j := 0) dX8_pour_104 rfl ?_
                refine a_callS (d' := d - 1) (mc' := 0) (ms' := 0) (mc1 := 0) (ms1 := 0) (st := []) [vI v5, vI v6, vI v7] dX8_pour_106 mwX8_areChances lkX8_152 rfl (Nat.le_of_ble_eq_true rfl) (by omega) rfl rfl (c_X8_areChances  (by omega)    (fun t106_11 => ?_) (fun t106_11 => ?_))
                · have t106_11 : (0 ≤ v5 ∧ v5 ≤ 100) ∧ (0 ≤ v6 ∧ v6 ≤ 100) ∧ (0 ≤ v7 ∧ v7 ≤ 100) ∧ v5 + v6 + v7 ≤ 100 := t106_11
                  show Aj γ mX8_pour d 0 0 Post 109 [(6, vI v7), (5, vI v6), (4, vI v5), (3, vA (90 + 2 * (Int.toNat s))), (0, vA 0), (1, vI s), (2, vI t)] [vI 1] (mk h τ)
                  refine a_if_eq (tgt := 126) dX8_pour_109 (by decide) (fun c => absurd c (by decide)) (fun _ => ?_)
                  refine a_aload_n (j := 4) dX8_pour_112 rfl rfl (Nat.le_of_ble_eq_true rfl) ?_
                  refine a_iload_n (j := 6) dX8_pour_113 rfl rfl ?_
                  refine a_iload (j := 2) dX8_pour_114 rfl ?_
                  refine a_iload (j := 1) dX8_pour_116 rfl ?_
                  refine a_iload (j := 0) dX8_pour_118 rfl ?_
                  refine b_callV (d' := d - 1) (mc' := 0) (ms' := 0) (mc1 := 0) (ms1 := 0) (st := []) (b := 0) [vI t, vI v5, vI v6, vI v7] dX8_pour_120 mwX8_putChances lkX8_155 (by decide) rfl rc_X8 rfl (Nat.le_of_ble_eq_true rfl) (by omega) rfl rfl (c_X8_putChances (v1 := v2) (by omega)  e2 (show 0 ≤ v2 ∧ v2 ≤ 1000 by omega) (show 0 ≤ t ∧ t < 12 by omega) (show (0 ≤ v5 ∧ v5 ≤ 100) ∧ (0 ≤ v6 ∧ v6 ≤ 100) ∧ (0 ≤ v7 ∧ v7 ≤ 100) by omega) ?_)
                  show Aj γ mX8_pour d 0 0 Post 123 [(6, vI v7), (5, vI v6), (4, vI v5), (3, vA (90 + 2 * (Int.toNat s))), (0, vA 0), (1, vI s), (2, vI t)] [vI (100 - v5 - v6 - v7)] (mk (up2 (up2 (up2 (up2 (up2 (up2 h ((8 + 2 * (Int.toNat t)) + 1) 0 (((100 - v5) - v6) - v7)) ((8 + 2 * (Int.toNat t)) + 1) 1 v5) ((8 + 2 * (Int.toNat t)) + 1) 2 v6) ((8 + 2 * (Int.toNat t)) + 1) 3 v7) 0 3 (v2 + 1)) 1 0 (v2 + 1)) τ)
                  refine a_goto (tgt := 128) dX8_pour_123 (by decide) ?_
                  exact a_iret dX8_pour_128 rfl (k3 t1_1 t12_2 c33_3 c45_4 c80_8 c87_9 c94_10 t106_11)
                · have t106_11 : ¬ ((0 ≤ v5 ∧ v5 ≤ 100) ∧ (0 ≤ v6 ∧ v6 ≤ 100) ∧ (0 ≤ v7 ∧ v7 ≤ 100) ∧ v5 + v6 + v7 ≤ 100) := t106_11
                  show Aj γ mX8_pour d 0 0 Post 109 [(6, vI v7), (5, vI v6), (4, vI v5), (3, vA (90 + 2 * (Int.toNat s))), (0, vA 0), (1, vI s), (2, vI t)] [vI 0] (mk h τ)
                  refine a_if_eq (tgt := 126) dX8_pour_109 (by decide) (fun _ => ?_) (fun c => absurd c (by decide))
                  refine a_ldc (z := (-1000000001)) dX8_pour_126 kwX8_72 ⟨by decide, by decide, by decide⟩ ?_
                  exact a_iret dX8_pour_128 rfl (k4 t1_1 t12_2 c33_3 c45_4 c80_8 c87_9 c94_10 t106_11)
              · refine a_ldc (z := (-1000000012)) dX8_pour_97 kwX8_148 ⟨by decide, by decide, by decide⟩ ?_
                exact a_iret dX8_pour_99 rfl (k5 t1_1 t12_2 c33_3 c45_4 c80_8 c87_9 c94_10)
        · refine a_ldcw (z := (-1000000013)) dX8_pour_48 kwX8_280 ⟨by decide, by decide, by decide⟩ ?_
          exact a_iret dX8_pour_51 rfl (k6 t1_1 t12_2 c33_3 c45_4)
      · refine a_ldcw (z := (-1000000011)) dX8_pour_36 kwX8_276 ⟨by decide, by decide, by decide⟩ ?_
        exact a_iret dX8_pour_39 rfl (k7 t1_1 t12_2 c33_3)
    · have t12_2 : ¬ (0 ≤ t ∧ t < v1) := t12_2
      show Aj γ mX8_pour d 0 0 Post 15 [(0, vA 0), (1, vI s), (2, vI t)] [vI 0] (mk h τ)
      refine a_if_ne (tgt := 21) dX8_pour_15 (by decide) (fun c => absurd c (by decide)) (fun _ => ?_)
      refine a_ldc (z := (-1000000001)) dX8_pour_18 kwX8_72 ⟨by decide, by decide, by decide⟩ ?_
      exact a_iret dX8_pour_20 rfl (k8 t1_1 t12_2)
  · have t1_1 : ¬ (0 ≤ s ∧ s ≤ 3) := t1_1
    show Aj γ mX8_pour d 0 0 Post 4 [(0, vA 0), (1, vI s), (2, vI t)] [vI 0] (mk h τ)
    refine a_if_eq (tgt := 18) dX8_pour_4 (by decide) (fun _ => ?_) (fun c => absurd c (by decide))
    refine a_ldc (z := (-1000000001)) dX8_pour_18 kwX8_72 ⟨by decide, by decide, by decide⟩ ?_
    exact a_iret dX8_pour_20 rfl (k9 t1_1)
set_option maxHeartbeats 8000000 in
theorem c_X8_mark {γ : GT} {d : Nat} {s p y : Int} {h : Nat → Nat → Int} {τ : List AC} {Post : Option AV → List AC → Prop} (hd : 2 ≤ d) {v1 : Int} (e1 : h (90 + 2 * (Int.toNat s)) 1 = v1) {v2 : Int} (e2 : h (90 + 2 * (Int.toNat s)) 0 = v2) (hZ : Im s 4 (0 ≤ v1 ∧ v1 ≤ 24)) (k1 : (0 ≤ s ∧ s ≤ 3) → (¬ v2 = (-1)) → (0 ≤ p ∧ p < v1) → (¬ v2 = 0) → (y = (-1000000005)) → Post (some (vI 1)) (mk (up2 h ((90 + 2 * (Int.toNat s)) + 1) (Int.toNat p) y) τ)) (k2 : (0 ≤ s ∧ s ≤ 3) → (¬ v2 = (-1)) → (0 ≤ p ∧ p < v1) → (¬ v2 = 0) → (¬ y = (-1000000005)) → ((-99999) ≤ y ∧ y ≤ 99999) → Post (some (vI 1)) (mk (up2 h ((90 + 2 * (Int.toNat s)) + 1) (Int.toNat p) y) τ)) (k3 : (0 ≤ s ∧ s ≤ 3) → (¬ v2 = (-1)) → (0 ≤ p ∧ p < v1) → (¬ v2 = 0) → (¬ y = (-1000000005)) → (¬ ((-99999) ≤ y ∧ y ≤ 99999)) → Post (some (vI (-1000000001))) (mk h τ)) (k4 : (0 ≤ s ∧ s ≤ 3) → (¬ v2 = (-1)) → (0 ≤ p ∧ p < v1) → (v2 = 0) → (¬ y = (-1000000005)) → Post (some (vI 1)) (mk (up2 h ((90 + 2 * (Int.toNat s)) + 1) (Int.toNat p) (s16 y)) τ)) (k5 : (0 ≤ s ∧ s ≤ 3) → (¬ v2 = (-1)) → (0 ≤ p ∧ p < v1) → (v2 = 0) → (y = (-1000000005)) → Post (some (vI (-1000000012))) (mk h τ)) (k6 : (0 ≤ s ∧ s ≤ 3) → (¬ v2 = (-1)) → (¬ (0 ≤ p ∧ p < v1)) → Post (some (vI (-1000000013))) (mk h τ)) (k7 : (0 ≤ s ∧ s ≤ 3) → (v2 = (-1)) → Post (some (vI (-1000000011))) (mk h τ)) (k8 : (¬ (0 ≤ s ∧ s ≤ 3)) → Post (some (vI (-1000000001))) (mk h τ)) : Cj γ mX8_mark d 0 0 [vA 0, vI s, vI p, vI y] (mk h τ) Post := by
  refine c_of (by decide) (Nat.le_of_ble_eq_true rfl) ?_
  show Aj γ mX8_mark d 0 0 Post 0 [(0, vA 0), (1, vI s), (2, vI p), (3, vI y)] [] (mk h τ)
  refine a_iload_n (j := 1) dX8_mark_0 rfl rfl ?_
  refine a_callS (d' := d - 1) (mc' := 0) (ms' := 0) (mc1 := 0) (ms1 := 0) (st := []) [vI s] dX8_mark_1 mwX8_isSheet lkX8_266 rfl (Nat.le_of_ble_eq_true rfl) (by omega) rfl rfl (c_X8_isSheet  (by omega)    (fun t1_1 => ?_) (fun t1_1 => ?_))
  · have t1_1 : 0 ≤ s ∧ s ≤ 3 := t1_1
    show Aj γ mX8_mark d 0 0 Post 4 [(0, vA 0), (1, vI s), (2, vI p), (3, vI y)] [vI 1] (mk h τ)
    refine a_if_ne (tgt := 10) dX8_mark_4 (by decide) (fun _ => ?_) (fun c => absurd c (by decide))
    have hZ := hZ (by omega) (by omega)
    refine a_aload_n (j := 0) dX8_mark_10 rfl rfl (Nat.le_of_ble_eq_true rfl) ?_
    refine b_getp (a := 0) (p := 87) dX8_mark_11 fwX8_52 (by decide) rfl (by decide) rfl rfl ?_
    refine a_iload_n (j := 1) dX8_mark_14 rfl rfl ?_
    refine b_aaloadp (a := 87) (p := (90 + 2 * (Int.toNat s))) (Int.toNat s) dX8_mark_15 (by decide) rfl qa_15 (by omega) (by omega) (sh_i (show (Int.toNat s) < 4 by omega)).2 ?_
    refine a_astore (lv' := [(4, vA (90 + 2 * (Int.toNat s))), (0, vA 0), (1, vI s), (2, vI p), (3, vI y)]) dX8_mark_16 (by decide) (Nat.le_of_ble_eq_true rfl) rfl ?_
    refine a_aload (j := 0) dX8_mark_18 rfl (Nat.le_of_ble_eq_true rfl) ?_
    refine b_get (a := (90 + 2 * (Int.toNat s))) (z := v2) (t := 0) dX8_mark_20 fwX8_273 (by have := (sh_i (show (Int.toNat s) < 4 by omega)).1.1; omega) (sh_i (show (Int.toNat s) < 4 by omega)).1.2.1 (by decide) (sh_s (sh_i (show (Int.toNat s) < 4 by omega)).1 (by decide)) rfl e2 ?_
    refine a_iconst dX8_mark_23 ⟨by decide, by decide⟩ ?_
    refine a_icmp_ne (tgt := 31) dX8_mark_24 (by decide) (fun c24_2 => ?_) (fun c24_2 => ?_)
    · refine a_aload (j := 0) dX8_mark_31 rfl (Nat.le_of_ble_eq_true rfl) ?_
      refine a_iload_n (j := 3) dX8_mark_33 rfl rfl ?_
      refine b_callV (d' := d - 1) (mc' := 0) (ms' := 0) (mc1 := 0) (ms1 := 0) (st := []) (b := (90 + 2 * (Int.toNat s))) [vI p] dX8_mark_34 mwX1_hasPlace lkX8_277 (by have := (sh_i (show (Int.toNat s) < 4 by omega)).1.1; omega) (sh_i (show (Int.toNat s) < 4 by omega)).1.2.1 rc_X1 rfl (Nat.le_of_ble_eq_true rfl) (by omega) rfl rfl (c_X1_hasPlace (v1 := v1) (by omega) (sh_i (show (Int.toNat s) < 4 by omega)).1 e1 (show 0 ≤ v1 ∧ v1 ≤ 24 by omega) (fun t34_3 => ?_) (fun t34_3 => ?_))
      · have t34_3 : 0 ≤ p ∧ p < v1 := t34_3
        show Aj γ mX8_mark d 0 0 Post 37 [(4, vA (90 + 2 * (Int.toNat s))), (0, vA 0), (1, vI s), (2, vI p), (3, vI y)] [vI 1] (mk h τ)
        refine a_if_ne (tgt := 44) dX8_mark_37 (by decide) (fun _ => ?_) (fun c => absurd c (by decide))
        refine a_aload (j := 0) dX8_mark_44 rfl (Nat.le_of_ble_eq_true rfl) ?_
        refine b_get (a := (90 + 2 * (Int.toNat s))) (z := v2) (t := 0) dX8_mark_46 fwX8_273 (by have := (sh_i (show (Int.toNat s) < 4 by omega)).1.1; omega) (sh_i (show (Int.toNat s) < 4 by omega)).1.2.1 (by decide) (sh_s (sh_i (show (Int.toNat s) < 4 by omega)).1 (by decide)) rfl e2 ?_
        refine a_if_ne (tgt := 72) dX8_mark_49 (by decide) (fun c49_4 => ?_) (fun c49_4 => ?_)
        · refine a_iload_n (j := 4) dX8_mark_72 rfl rfl ?_
          refine a_ldc (z := (-1000000005)) dX8_mark_73 kwX8_159 ⟨by decide, by decide, by decide⟩ ?_
          refine a_icmp_eq (tgt := 94) dX8_mark_75 (by decide) (fun c75_5 => ?_) (fun c75_5 => ?_)
          · refine a_aload (j := 0) dX8_mark_94 rfl (Nat.le_of_ble_eq_true rfl) ?_
            refine b_getp (a := (90 + 2 * (Int.toNat s))) (p := ((90 + 2 * (Int.toNat s)) + 1)) dX8_mark_96 fwX8_281 (by have := (sh_i (show (Int.toNat s) < 4 by omega)).1.1; omega) (sh_i (show (Int.toNat s) < 4 by omega)).1.2.1 (by decide) (sh_p (sh_i (show (Int.toNat s) < 4 by omega)).1) rfl ?_
            refine a_iload_n (j := 3) dX8_mark_99 rfl rfl ?_
            refine a_iload_n (j := 4) dX8_mark_100 rfl rfl ?_
            refine b_iastore (a := ((90 + 2 * (Int.toNat s)) + 1)) (Int.toNat p) dX8_mark_101 (sh_i (show (Int.toNat s) < 4 by omega)).1.1 (sh_i (show (Int.toNat s) < 4 by omega)).1.2.2.1 (by omega) (by omega) (sh_c (sh_i (show (Int.toNat s) < 4 by omega)).1) ?_
            refine a_iconst dX8_mark_102 ⟨by decide, by decide⟩ ?_
            exact a_iret dX8_mark_103 rfl (k1 t1_1 c24_2 t34_3 c49_4 c75_5)
          · refine a_iload_n (j := 4) dX8_mark_78 rfl rfl ?_
            refine a_ldcw (z := (-99999)) dX8_mark_79 kwX8_284 ⟨by decide, by decide, by decide⟩ ?_
            refine a_ldcw (z := 99999) dX8_mark_82 kwX8_285 ⟨by decide, by decide, by decide⟩ ?_
            refine a_callS (d' := d - 1) (mc' := 0) (ms' := 0) (mc1 := 0) (ms1 := 0) (st := []) [vI y, vI (-99999), vI 99999] dX8_mark_85 mwX8_within lkX8_68 rfl (Nat.le_of_ble_eq_true rfl) (by omega) rfl rfl (c_X8_within  (by omega)    (fun t85_6 => ?_) (fun t85_6 => ?_))
            · have t85_6 : (-99999) ≤ y ∧ y ≤ 99999 := t85_6
              show Aj γ mX8_mark d 0 0 Post 88 [(4, vA (90 + 2 * (Int.toNat s))), (0, vA 0), (1, vI s), (2, vI p), (3, vI y)] [vI 1] (mk h τ)
              refine a_if_ne (tgt := 94) dX8_mark_88 (by decide) (fun _ => ?_) (fun c => absurd c (by decide))
              refine a_aload (j := 0) dX8_mark_94 rfl (Nat.le_of_ble_eq_true rfl) ?_
              refine b_getp (a := (90 + 2 * (Int.toNat s))) (p := ((90 + 2 * (Int.toNat s)) + 1)) dX8_mark_96 fwX8_281 (by have := (sh_i (show (Int.toNat s) < 4 by omega)).1.1; omega) (sh_i (show (Int.toNat s) < 4 by omega)).1.2.1 (by decide) (sh_p (sh_i (show (Int.toNat s) < 4 by omega)).1) rfl ?_
              refine a_iload_n (j := 3) dX8_mark_99 rfl rfl ?_
              refine a_iload_n (j := 4) dX8_mark_100 rfl rfl ?_
              refine b_iastore (a := ((90 + 2 * (Int.toNat s)) + 1)) (Int.toNat p) dX8_mark_101 (sh_i (show (Int.toNat s) < 4 by omega)).1.1 (sh_i (show (Int.toNat s) < 4 by omega)).1.2.2.1 (by omega) (by omega) (sh_c (sh_i (show (Int.toNat s) < 4 by omega)).1) ?_
              refine a_iconst dX8_mark_102 ⟨by decide, by decide⟩ ?_
              exact a_iret dX8_mark_103 rfl (k2 t1_1 c24_2 t34_3 c49_4 c75_5 t85_6)
            · have t85_6 : ¬ ((-99999) ≤ y ∧ y ≤ 99999) := t85_6
              show Aj γ mX8_mark d 0 0 Post 88 [(4, vA (90 + 2 * (Int.toNat s))), (0, vA 0), (1, vI s), (2, vI p), (3, vI y)] [vI 0] (mk h τ)
              refine a_if_ne (tgt := 94) dX8_mark_88 (by decide) (fun c => absurd c (by decide)) (fun _ => ?_)
              refine a_ldc (z := (-1000000001)) dX8_mark_91 kwX8_72 ⟨by decide, by decide, by decide⟩ ?_
              exact a_iret dX8_mark_93 rfl (k3 t1_1 c24_2 t34_3 c49_4 c75_5 t85_6)
        · refine a_iload_n (j := 4) dX8_mark_52 rfl rfl ?_
          refine a_ldc (z := (-1000000005)) dX8_mark_53 kwX8_159 ⟨by decide, by decide, by decide⟩ ?_
          refine a_icmp_ne (tgt := 61) dX8_mark_55 (by decide) (fun c55_7 => ?_) (fun c55_7 => ?_)
          · refine a_aload (j := 0) dX8_mark_61 rfl (Nat.le_of_ble_eq_true rfl) ?_
            refine b_getp (a := (90 + 2 * (Int.toNat s))) (p := ((90 + 2 * (Int.toNat s)) + 1)) dX8_mark_63 fwX8_281 (by have := (sh_i (show (Int.toNat s) < 4 by omega)).1.1; omega) (sh_i (show (Int.toNat s) < 4 by omega)).1.2.1 (by decide) (sh_p (sh_i (show (Int.toNat s) < 4 by omega)).1) rfl ?_
            refine a_iload_n (j := 3) dX8_mark_66 rfl rfl ?_
            refine a_iload_n (j := 4) dX8_mark_67 rfl rfl ?_
            refine a_i2s (z := (s16 y)) dX8_mark_68 rfl ?_
            refine b_iastore (a := ((90 + 2 * (Int.toNat s)) + 1)) (Int.toNat p) dX8_mark_69 (sh_i (show (Int.toNat s) < 4 by omega)).1.1 (sh_i (show (Int.toNat s) < 4 by omega)).1.2.2.1 (by omega) (by omega) (sh_c (sh_i (show (Int.toNat s) < 4 by omega)).1) ?_
            refine a_iconst dX8_mark_70 ⟨by decide, by decide⟩ ?_
            exact a_iret dX8_mark_71 rfl (k4 t1_1 c24_2 t34_3 c49_4 c55_7)
          · refine a_ldc (z := (-1000000012)) dX8_mark_58 kwX8_148 ⟨by decide, by decide, by decide⟩ ?_
            exact a_iret dX8_mark_60 rfl (k5 t1_1 c24_2 t34_3 c49_4 c55_7)
      · have t34_3 : ¬ (0 ≤ p ∧ p < v1) := t34_3
        show Aj γ mX8_mark d 0 0 Post 37 [(4, vA (90 + 2 * (Int.toNat s))), (0, vA 0), (1, vI s), (2, vI p), (3, vI y)] [vI 0] (mk h τ)
        refine a_if_ne (tgt := 44) dX8_mark_37 (by decide) (fun c => absurd c (by decide)) (fun _ => ?_)
        refine a_ldcw (z := (-1000000013)) dX8_mark_40 kwX8_280 ⟨by decide, by decide, by decide⟩ ?_
        exact a_iret dX8_mark_43 rfl (k6 t1_1 c24_2 t34_3)
    · refine a_ldcw (z := (-1000000011)) dX8_mark_27 kwX8_276 ⟨by decide, by decide, by decide⟩ ?_
      exact a_iret dX8_mark_30 rfl (k7 t1_1 c24_2)
  · have t1_1 : ¬ (0 ≤ s ∧ s ≤ 3) := t1_1
    show Aj γ mX8_mark d 0 0 Post 4 [(0, vA 0), (1, vI s), (2, vI p), (3, vI y)] [vI 0] (mk h τ)
    refine a_if_ne (tgt := 10) dX8_mark_4 (by decide) (fun c => absurd c (by decide)) (fun _ => ?_)
    refine a_ldc (z := (-1000000001)) dX8_mark_7 kwX8_72 ⟨by decide, by decide, by decide⟩ ?_
    exact a_iret dX8_mark_9 rfl (k8 t1_1)
set_option maxHeartbeats 8000000 in
theorem c_X8_rest {γ : GT} {d : Nat} {s n : Int} {h : Nat → Nat → Int} {τ : List AC} {Post : Option AV → List AC → Prop} (hd : 2 ≤ d) {v1 : Int} (e1 : h (98 + 5 * (Int.toNat s)) 0 = v1) {v2 : Int} (e2 : h (98 + 5 * (Int.toNat s)) 1 = v2) (k1 : (0 ≤ s ∧ s ≤ 4) → (¬ v1 = 0) → (v1 = 3) → (¬ n = 0) → Post (some (vI (w32 (Int.tmod v2 n)))) (mk h τ)) (k2 : (0 ≤ s ∧ s ≤ 4) → (¬ v1 = 0) → (v1 = 3) → (n = 0) → Post (some (vI (-1000000002))) (mk h τ)) (k3 : (0 ≤ s ∧ s ≤ 4) → (¬ v1 = 0) → (¬ v1 = 3) → Post (some (vI (-1000000012))) (mk h τ)) (k4 : (0 ≤ s ∧ s ≤ 4) → (v1 = 0) → Post (some (vI (-1000000011))) (mk h τ)) (k5 : (¬ (0 ≤ s ∧ s ≤ 4)) → Post (some (vI (-1000000001))) (mk h τ)) : Cj γ mX8_rest d 0 0 [vA 0, vI s, vI n] (mk h τ) Post := by
  refine c_of (by decide) (Nat.le_of_ble_eq_true rfl) ?_
  show Aj γ mX8_rest d 0 0 Post 0 [(0, vA 0), (1, vI s), (2, vI n)] [] (mk h τ)
  refine a_iload_n (j := 1) dX8_rest_0 rfl rfl ?_
  refine a_callS (d' := d - 1) (mc' := 0) (ms' := 0) (mc1 := 0) (ms1 := 0) (st := []) [vI s] dX8_rest_1 mwX8_isSlot lkX8_296 rfl (Nat.le_of_ble_eq_true rfl) (by omega) rfl rfl (c_X8_isSlot  (by omega)    (fun t1_1 => ?_) (fun t1_1 => ?_))
  · have t1_1 : 0 ≤ s ∧ s ≤ 4 := t1_1
    show Aj γ mX8_rest d 0 0 Post 4 [(0, vA 0), (1, vI s), (2, vI n)] [vI 1] (mk h τ)
    refine a_if_ne (tgt := 10) dX8_rest_4 (by decide) (fun _ => ?_) (fun c => absurd c (by decide))
    refine a_aload_n (j := 0) dX8_rest_10 rfl rfl (Nat.le_of_ble_eq_true rfl) ?_
    refine b_getp (a := 0) (p := 88) dX8_rest_11 fwX8_58 (by decide) rfl (by decide) rfl rfl ?_
    refine a_iload_n (j := 1) dX8_rest_14 rfl rfl ?_
    refine b_aaloadp (a := 88) (p := (98 + 5 * (Int.toNat s))) (Int.toNat s) dX8_rest_15 (by decide) rfl qa_16 (by omega) (by omega) (sl_i (show (Int.toNat s) < 5 by omega)).1 ?_
    refine a_astore_n (lv' := [(3, vA (98 + 5 * (Int.toNat s))), (0, vA 0), (1, vI s), (2, vI n)]) dX8_rest_16 rfl (by decide) (Nat.le_of_ble_eq_true rfl) rfl ?_
    refine a_aload_n (j := 0) dX8_rest_17 rfl rfl (Nat.le_of_ble_eq_true rfl) ?_
    refine b_get (a := (98 + 5 * (Int.toNat s))) (z := v1) (t := 0) dX8_rest_18 fwX8_299 (by have := (sl_i (show (Int.toNat s) < 5 by omega)).2.2.1; omega) (sl_i (show (Int.toNat s) < 5 by omega)).2.1 (by decide) (sl_i (show (Int.toNat s) < 5 by omega)).2.2.2.1 rfl e1 ?_
    refine a_if_ne (tgt := 28) dX8_rest_21 (by decide) (fun c21_2 => ?_) (fun c21_2 => ?_)
    · refine a_aload_n (j := 0) dX8_rest_28 rfl rfl (Nat.le_of_ble_eq_true rfl) ?_
      refine b_get (a := (98 + 5 * (Int.toNat s))) (z := v1) (t := 0) dX8_rest_29 fwX8_299 (by have := (sl_i (show (Int.toNat s) < 5 by omega)).2.2.1; omega) (sl_i (show (Int.toNat s) < 5 by omega)).2.1 (by decide) (sl_i (show (Int.toNat s) < 5 by omega)).2.2.2.1 rfl e1 ?_
      refine a_iconst dX8_rest_32 ⟨by decide, by decide⟩ ?_
      refine a_icmp_eq (tgt := 39) dX8_rest_33 (by decide) (fun c33_3 => ?_) (fun c33_3 => ?_)
      · refine a_iload_n (j := 3) dX8_rest_39 rfl rfl ?_
        refine a_if_ne (tgt := 48) dX8_rest_40 (by decide) (fun c40_4 => ?_) (fun c40_4 => ?_)
        · refine a_aload_n (j := 0) dX8_rest_48 rfl rfl (Nat.le_of_ble_eq_true rfl) ?_
          refine b_get (a := (98 + 5 * (Int.toNat s))) (z := v2) (t := 0) dX8_rest_49 fwX8_316 (by have := (sl_i (show (Int.toNat s) < 5 by omega)).2.2.1; omega) (sl_i (show (Int.toNat s) < 5 by omega)).2.1 (by decide) (sl_i (show (Int.toNat s) < 5 by omega)).2.2.2.2.1 rfl e2 ?_
          refine a_iload_n (j := 3) dX8_rest_52 rfl rfl ?_
          refine a_irem (z := (w32 (Int.tmod v2 n))) dX8_rest_53 (by omega) rfl ?_
          exact a_iret dX8_rest_54 rfl (k1 t1_1 c21_2 c33_3 c40_4)
        · refine a_ldc (z := (-1000000002)) dX8_rest_43 kwX8_176 ⟨by decide, by decide, by decide⟩ ?_
          refine a_goto (tgt := 54) dX8_rest_45 (by decide) ?_
          exact a_iret dX8_rest_54 rfl (k2 t1_1 c21_2 c33_3 c40_4)
      · refine a_ldc (z := (-1000000012)) dX8_rest_36 kwX8_148 ⟨by decide, by decide, by decide⟩ ?_
        exact a_iret dX8_rest_38 rfl (k3 t1_1 c21_2 c33_3)
    · refine a_ldcw (z := (-1000000011)) dX8_rest_24 kwX8_276 ⟨by decide, by decide, by decide⟩ ?_
      exact a_iret dX8_rest_27 rfl (k4 t1_1 c21_2)
  · have t1_1 : ¬ (0 ≤ s ∧ s ≤ 4) := t1_1
    show Aj γ mX8_rest d 0 0 Post 4 [(0, vA 0), (1, vI s), (2, vI n)] [vI 0] (mk h τ)
    refine a_if_ne (tgt := 10) dX8_rest_4 (by decide) (fun c => absurd c (by decide)) (fun _ => ?_)
    refine a_ldc (z := (-1000000001)) dX8_rest_7 kwX8_72 ⟨by decide, by decide, by decide⟩ ?_
    exact a_iret dX8_rest_9 rfl (k5 t1_1)
set_option maxHeartbeats 8000000 in
theorem c_X8_item {γ : GT} {d : Nat} {s p : Int} {h : Nat → Nat → Int} {τ : List AC} {Post : Option AV → List AC → Prop} (hd : 2 ≤ d) {v1 : Int} (e1 : h ((98 + 5 * (Int.toNat s)) + 3) 1 = v1) {v2 : Int} (e2 : h (98 + 5 * (Int.toNat s)) 0 = v2) {v3 : Int} (e3 : h (((98 + 5 * (Int.toNat s)) + 3) + 1) (Int.toNat p) = v3) (hZ : Im s 5 (0 ≤ v1 ∧ v1 ≤ 24)) (k1 : (0 ≤ s ∧ s ≤ 4) → (¬ v2 = 0) → (v2 = 2) → (0 ≤ p ∧ p < v1) → (¬ v3 = (-1000000005)) → Post (some (vI v3)) (mk h τ)) (k2 : (0 ≤ s ∧ s ≤ 4) → (¬ v2 = 0) → (v2 = 2) → (0 ≤ p ∧ p < v1) → (v3 = (-1000000005)) → Post (some (vI (-1000000012))) (mk h τ)) (k3 : (0 ≤ s ∧ s ≤ 4) → (¬ v2 = 0) → (v2 = 2) → (¬ (0 ≤ p ∧ p < v1)) → Post (some (vI (-1000000013))) (mk h τ)) (k4 : (0 ≤ s ∧ s ≤ 4) → (¬ v2 = 0) → (¬ v2 = 2) → Post (some (vI (-1000000012))) (mk h τ)) (k5 : (0 ≤ s ∧ s ≤ 4) → (v2 = 0) → Post (some (vI (-1000000011))) (mk h τ)) (k6 : (¬ (0 ≤ s ∧ s ≤ 4)) → Post (some (vI (-1000000001))) (mk h τ)) : Cj γ mX8_item d 0 0 [vA 0, vI s, vI p] (mk h τ) Post := by
  refine c_of (by decide) (Nat.le_of_ble_eq_true rfl) ?_
  show Aj γ mX8_item d 0 0 Post 0 [(0, vA 0), (1, vI s), (2, vI p)] [] (mk h τ)
  refine a_iload_n (j := 1) dX8_item_0 rfl rfl ?_
  refine a_callS (d' := d - 1) (mc' := 0) (ms' := 0) (mc1 := 0) (ms1 := 0) (st := []) [vI s] dX8_item_1 mwX8_isSlot lkX8_296 rfl (Nat.le_of_ble_eq_true rfl) (by omega) rfl rfl (c_X8_isSlot  (by omega)    (fun t1_1 => ?_) (fun t1_1 => ?_))
  · have t1_1 : 0 ≤ s ∧ s ≤ 4 := t1_1
    show Aj γ mX8_item d 0 0 Post 4 [(0, vA 0), (1, vI s), (2, vI p)] [vI 1] (mk h τ)
    refine a_if_ne (tgt := 10) dX8_item_4 (by decide) (fun _ => ?_) (fun c => absurd c (by decide))
    have hZ := hZ (by omega) (by omega)
    refine a_aload_n (j := 0) dX8_item_10 rfl rfl (Nat.le_of_ble_eq_true rfl) ?_
    refine b_getp (a := 0) (p := 88) dX8_item_11 fwX8_58 (by decide) rfl (by decide) rfl rfl ?_
    refine a_iload_n (j := 1) dX8_item_14 rfl rfl ?_
    refine b_aaloadp (a := 88) (p := (98 + 5 * (Int.toNat s))) (Int.toNat s) dX8_item_15 (by decide) rfl qa_16 (by omega) (by omega) (sl_i (show (Int.toNat s) < 5 by omega)).1 ?_
    refine a_astore_n (lv' := [(3, vA (98 + 5 * (Int.toNat s))), (0, vA 0), (1, vI s), (2, vI p)]) dX8_item_16 rfl (by decide) (Nat.le_of_ble_eq_true rfl) rfl ?_
    refine a_aload_n (j := 0) dX8_item_17 rfl rfl (Nat.le_of_ble_eq_true rfl) ?_
    refine b_get (a := (98 + 5 * (Int.toNat s))) (z := v2) (t := 0) dX8_item_18 fwX8_299 (by have := (sl_i (show (Int.toNat s) < 5 by omega)).2.2.1; omega) (sl_i (show (Int.toNat s) < 5 by omega)).2.1 (by decide) (sl_i (show (Int.toNat s) < 5 by omega)).2.2.2.1 rfl e2 ?_
    refine a_if_ne (tgt := 28) dX8_item_21 (by decide) (fun c21_2 => ?_) (fun c21_2 => ?_)
    · refine a_aload_n (j := 0) dX8_item_28 rfl rfl (Nat.le_of_ble_eq_true rfl) ?_
      refine b_get (a := (98 + 5 * (Int.toNat s))) (z := v2) (t := 0) dX8_item_29 fwX8_299 (by have := (sl_i (show (Int.toNat s) < 5 by omega)).2.2.1; omega) (sl_i (show (Int.toNat s) < 5 by omega)).2.1 (by decide) (sl_i (show (Int.toNat s) < 5 by omega)).2.2.2.1 rfl e2 ?_
      refine a_iconst dX8_item_32 ⟨by decide, by decide⟩ ?_
      refine a_icmp_eq (tgt := 39) dX8_item_33 (by decide) (fun c33_3 => ?_) (fun c33_3 => ?_)
      · refine a_aload_n (j := 0) dX8_item_39 rfl rfl (Nat.le_of_ble_eq_true rfl) ?_
        refine b_getp (a := (98 + 5 * (Int.toNat s))) (p := ((98 + 5 * (Int.toNat s)) + 3)) dX8_item_40 fwX8_309 (by have := (sl_i (show (Int.toNat s) < 5 by omega)).2.2.1; omega) (sl_i (show (Int.toNat s) < 5 by omega)).2.1 (by decide) (sl_i (show (Int.toNat s) < 5 by omega)).2.2.2.2.2.2.1 rfl ?_
        refine a_iload_n (j := 3) dX8_item_43 rfl rfl ?_
        refine b_callV (d' := d - 1) (mc' := 0) (ms' := 0) (mc1 := 0) (ms1 := 0) (st := []) (b := ((98 + 5 * (Int.toNat s)) + 3)) [vI p] dX8_item_44 mwX1_hasPlace lkX8_277 (by have := (sl_i (show (Int.toNat s) < 5 by omega)).2.2.2.2.2.2.2.2.1; omega) (sl_i (show (Int.toNat s) < 5 by omega)).2.2.2.2.2.2.2.2.2.1 rc_X1 rfl (Nat.le_of_ble_eq_true rfl) (by omega) rfl rfl (c_X1_hasPlace (v1 := v1) (by omega) (sl_i (show (Int.toNat s) < 5 by omega)).2.2.2.2.2.2.2.2 e1 (show 0 ≤ v1 ∧ v1 ≤ 24 by omega) (fun t44_4 => ?_) (fun t44_4 => ?_))
        · have t44_4 : 0 ≤ p ∧ p < v1 := t44_4
          show Aj γ mX8_item d 0 0 Post 47 [(3, vA (98 + 5 * (Int.toNat s))), (0, vA 0), (1, vI s), (2, vI p)] [vI 1] (mk h τ)
          refine a_if_ne (tgt := 54) dX8_item_47 (by decide) (fun _ => ?_) (fun c => absurd c (by decide))
          refine a_aload_n (j := 0) dX8_item_54 rfl rfl (Nat.le_of_ble_eq_true rfl) ?_
          refine b_getp (a := (98 + 5 * (Int.toNat s))) (p := ((98 + 5 * (Int.toNat s)) + 3)) dX8_item_55 fwX8_309 (by have := (sl_i (show (Int.toNat s) < 5 by omega)).2.2.1; omega) (sl_i (show (Int.toNat s) < 5 by omega)).2.1 (by decide) (sl_i (show (Int.toNat s) < 5 by omega)).2.2.2.2.2.2.1 rfl ?_
          refine b_getp (a := ((98 + 5 * (Int.toNat s)) + 3)) (p := (((98 + 5 * (Int.toNat s)) + 3) + 1)) dX8_item_58 fwX8_281 (by have := (sl_i (show (Int.toNat s) < 5 by omega)).2.2.2.2.2.2.2.2.1; omega) (sl_i (show (Int.toNat s) < 5 by omega)).2.2.2.2.2.2.2.2.2.1 (by decide) (sh_p (sl_i (show (Int.toNat s) < 5 by omega)).2.2.2.2.2.2.2.2) rfl ?_
          refine a_iload_n (j := 3) dX8_item_61 rfl rfl ?_
          refine b_iaload (a := (((98 + 5 * (Int.toNat s)) + 3) + 1)) (z := v3) (Int.toNat p) dX8_item_62 (sl_i (show (Int.toNat s) < 5 by omega)).2.2.2.2.2.2.2.2.1 (sl_i (show (Int.toNat s) < 5 by omega)).2.2.2.2.2.2.2.2.2.2.1 (by omega) (by omega) (sh_c (sl_i (show (Int.toNat s) < 5 by omega)).2.2.2.2.2.2.2.2) e3 (fun r62_5 => ?_)
          refine a_istore (lv' := [(4, vI v3), (3, vA (98 + 5 * (Int.toNat s))), (0, vA 0), (1, vI s), (2, vI p)]) dX8_item_63 (by decide) rfl ?_
          refine a_iload (j := 0) dX8_item_65 rfl ?_
          refine a_ldc (z := (-1000000005)) dX8_item_67 kwX8_159 ⟨by decide, by decide, by decide⟩ ?_
          refine a_icmp_ne (tgt := 77) dX8_item_69 (by decide) (fun c69_6 => ?_) (fun c69_6 => ?_)
          · refine a_iload (j := 0) dX8_item_77 rfl ?_
            exact a_iret dX8_item_79 rfl (k1 t1_1 c21_2 c33_3 t44_4 c69_6)
          · refine a_ldc (z := (-1000000012)) dX8_item_72 kwX8_148 ⟨by decide, by decide, by decide⟩ ?_
            refine a_goto (tgt := 79) dX8_item_74 (by decide) ?_
            exact a_iret dX8_item_79 rfl (k2 t1_1 c21_2 c33_3 t44_4 c69_6)
        · have t44_4 : ¬ (0 ≤ p ∧ p < v1) := t44_4
          show Aj γ mX8_item d 0 0 Post 47 [(3, vA (98 + 5 * (Int.toNat s))), (0, vA 0), (1, vI s), (2, vI p)] [vI 0] (mk h τ)
          refine a_if_ne (tgt := 54) dX8_item_47 (by decide) (fun c => absurd c (by decide)) (fun _ => ?_)
          refine a_ldcw (z := (-1000000013)) dX8_item_50 kwX8_280 ⟨by decide, by decide, by decide⟩ ?_
          exact a_iret dX8_item_53 rfl (k3 t1_1 c21_2 c33_3 t44_4)
      · refine a_ldc (z := (-1000000012)) dX8_item_36 kwX8_148 ⟨by decide, by decide, by decide⟩ ?_
        exact a_iret dX8_item_38 rfl (k4 t1_1 c21_2 c33_3)
    · refine a_ldcw (z := (-1000000011)) dX8_item_24 kwX8_276 ⟨by decide, by decide, by decide⟩ ?_
      exact a_iret dX8_item_27 rfl (k5 t1_1 c21_2)
  · have t1_1 : ¬ (0 ≤ s ∧ s ≤ 4) := t1_1
    show Aj γ mX8_item d 0 0 Post 4 [(0, vA 0), (1, vI s), (2, vI p)] [vI 0] (mk h τ)
    refine a_if_ne (tgt := 10) dX8_item_4 (by decide) (fun c => absurd c (by decide)) (fun _ => ?_)
    refine a_ldc (z := (-1000000001)) dX8_item_7 kwX8_72 ⟨by decide, by decide, by decide⟩ ?_
    exact a_iret dX8_item_9 rfl (k6 t1_1)
set_option maxHeartbeats 8000000 in
theorem c_X8_ask {γ : GT} {d : Nat} {s k : Int} {h : Nat → Nat → Int} {τ : List AC} {Post : Option AV → List AC → Prop} (hd : 3 ≤ d) {v1 : Int} (e1 : h (98 + 5 * (Int.toNat s)) 0 = v1) {v2 : Int} (e2 : h ((98 + 5 * (Int.toNat s)) + 1) 0 = v2) {v3 : Int} (e3 : h ((98 + 5 * (Int.toNat s)) + 1) 5 = v3) (hQ : Ip (0 ≤ s ∧ s ≤ 4 ∧ v1 = 1) (0 ≤ v2 ∧ v2 ≤ 5 ∧ 0 ≤ v3 ∧ v3 ≤ 999)) (k1 : (0 ≤ s ∧ s ≤ 4) → (0 ≤ k ∧ k ≤ 5) → (¬ v1 = 0) → (¬ v1 = 1) → Post (some (vI (-1000000012))) (mk h τ)) (k2 : (0 ≤ s ∧ s ≤ 4) → (0 ≤ k ∧ k ≤ 5) → (¬ v1 = 0) → (v1 = 1) → ((k = 0 ∨ v2 = k ∨ (k = 1 ∧ v2 = 3) ∨ (k = 2 ∧ v2 = 4))) → Post (some (vI (farF v2 v3))) (mk h τ)) (k3 : (0 ≤ s ∧ s ≤ 4) → (0 ≤ k ∧ k ≤ 5) → (¬ v1 = 0) → (v1 = 1) → (¬ ((k = 0 ∨ v2 = k ∨ (k = 1 ∧ v2 = 3) ∨ (k = 2 ∧ v2 = 4)))) → Post (some (vI (-1000000012))) (mk h τ)) (k4 : (0 ≤ s ∧ s ≤ 4) → (0 ≤ k ∧ k ≤ 5) → (v1 = 0) → Post (some (vI (-1000000011))) (mk h τ)) (k5 : (0 ≤ s ∧ s ≤ 4) → (¬ (0 ≤ k ∧ k ≤ 5)) → Post (some (vI (-1000000001))) (mk h τ)) (k6 : (¬ (0 ≤ s ∧ s ≤ 4)) → Post (some (vI (-1000000001))) (mk h τ)) : Cj γ mX8_ask d 0 0 [vA 0, vI s, vI k] (mk h τ) Post := by
  refine c_of (by decide) (Nat.le_of_ble_eq_true rfl) ?_
  show Aj γ mX8_ask d 0 0 Post 0 [(0, vA 0), (1, vI s), (2, vI k)] [] (mk h τ)
  refine a_iload_n (j := 1) dX8_ask_0 rfl rfl ?_
  refine a_callS (d' := d - 1) (mc' := 0) (ms' := 0) (mc1 := 0) (ms1 := 0) (st := []) [vI s] dX8_ask_1 mwX8_isSlot lkX8_296 rfl (Nat.le_of_ble_eq_true rfl) (by omega) rfl rfl (c_X8_isSlot  (by omega)    (fun t1_1 => ?_) (fun t1_1 => ?_))
  · have t1_1 : 0 ≤ s ∧ s ≤ 4 := t1_1
    show Aj γ mX8_ask d 0 0 Post 4 [(0, vA 0), (1, vI s), (2, vI k)] [vI 1] (mk h τ)
    refine a_if_eq (tgt := 14) dX8_ask_4 (by decide) (fun c => absurd c (by decide)) (fun _ => ?_)
    refine a_iload_n (j := 2) dX8_ask_7 rfl rfl ?_
    refine a_callS (d' := d - 1) (mc' := 0) (ms' := 0) (mc1 := 0) (ms1 := 0) (st := []) [vI k] dX8_ask_8 mwX8_isKind lkX8_93 rfl (Nat.le_of_ble_eq_true rfl) (by omega) rfl rfl (c_X8_isKind  (by omega)    (fun t8_2 => ?_) (fun t8_2 => ?_))
    · have t8_2 : 0 ≤ k ∧ k ≤ 5 := t8_2
      show Aj γ mX8_ask d 0 0 Post 11 [(0, vA 0), (1, vI s), (2, vI k)] [vI 1] (mk h τ)
      refine a_if_ne (tgt := 17) dX8_ask_11 (by decide) (fun _ => ?_) (fun c => absurd c (by decide))
      refine a_aload_n (j := 0) dX8_ask_17 rfl rfl (Nat.le_of_ble_eq_true rfl) ?_
      refine b_getp (a := 0) (p := 88) dX8_ask_18 fwX8_58 (by decide) rfl (by decide) rfl rfl ?_
      refine a_iload_n (j := 1) dX8_ask_21 rfl rfl ?_
      refine b_aaloadp (a := 88) (p := (98 + 5 * (Int.toNat s))) (Int.toNat s) dX8_ask_22 (by decide) rfl qa_16 (by omega) (by omega) (sl_i (show (Int.toNat s) < 5 by omega)).1 ?_
      refine a_astore_n (lv' := [(3, vA (98 + 5 * (Int.toNat s))), (0, vA 0), (1, vI s), (2, vI k)]) dX8_ask_23 rfl (by decide) (Nat.le_of_ble_eq_true rfl) rfl ?_
      refine a_aload_n (j := 0) dX8_ask_24 rfl rfl (Nat.le_of_ble_eq_true rfl) ?_
      refine b_get (a := (98 + 5 * (Int.toNat s))) (z := v1) (t := 0) dX8_ask_25 fwX8_299 (by have := (sl_i (show (Int.toNat s) < 5 by omega)).2.2.1; omega) (sl_i (show (Int.toNat s) < 5 by omega)).2.1 (by decide) (sl_i (show (Int.toNat s) < 5 by omega)).2.2.2.1 rfl e1 ?_
      refine a_if_ne (tgt := 35) dX8_ask_28 (by decide) (fun c28_3 => ?_) (fun c28_3 => ?_)
      · refine a_aload_n (j := 0) dX8_ask_35 rfl rfl (Nat.le_of_ble_eq_true rfl) ?_
        refine b_get (a := (98 + 5 * (Int.toNat s))) (z := v1) (t := 0) dX8_ask_36 fwX8_299 (by have := (sl_i (show (Int.toNat s) < 5 by omega)).2.2.1; omega) (sl_i (show (Int.toNat s) < 5 by omega)).2.1 (by decide) (sl_i (show (Int.toNat s) < 5 by omega)).2.2.2.1 rfl e1 ?_
        refine a_iconst dX8_ask_39 ⟨by decide, by decide⟩ ?_
        refine a_icmp_ne (tgt := 57) dX8_ask_40 (by decide) (fun c40_4 => ?_) (fun c40_4 => ?_)
        · refine a_ldc (z := (-1000000012)) dX8_ask_57 kwX8_148 ⟨by decide, by decide, by decide⟩ ?_
          exact a_iret dX8_ask_59 rfl (k1 t1_1 t8_2 c28_3 c40_4)
        · have hQ := hQ (by omega)
          refine a_aload_n (j := 0) dX8_ask_43 rfl rfl (Nat.le_of_ble_eq_true rfl) ?_
          refine b_getp (a := (98 + 5 * (Int.toNat s))) (p := ((98 + 5 * (Int.toNat s)) + 1)) dX8_ask_44 fwX8_302 (by have := (sl_i (show (Int.toNat s) < 5 by omega)).2.2.1; omega) (sl_i (show (Int.toNat s) < 5 by omega)).2.1 (by decide) (sl_i (show (Int.toNat s) < 5 by omega)).2.2.2.2.2.1 rfl ?_
          refine b_get (a := ((98 + 5 * (Int.toNat s)) + 1)) (z := v2) (t := 0) dX8_ask_47 fwX8_141 (by have := (sl_i (show (Int.toNat s) < 5 by omega)).2.2.2.2.2.2.2.1.1; omega) (sl_i (show (Int.toNat s) < 5 by omega)).2.2.2.2.2.2.2.1.2.1 (by decide) (tr_s (sl_i (show (Int.toNat s) < 5 by omega)).2.2.2.2.2.2.2.1 (by decide)) rfl e2 ?_
          refine a_iload_n (j := 3) dX8_ask_50 rfl rfl ?_
          refine a_callS (d' := d - 1) (mc' := 0) (ms' := 0) (mc1 := 0) (ms1 := 0) (st := []) [vI v2, vI k] dX8_ask_51 mwX8_isUnder lkX8_144 rfl (Nat.le_of_ble_eq_true rfl) (by omega) rfl rfl (c_X8_isUnder  (by omega)   (show 0 ≤ v2 ∧ v2 ≤ 5 by omega) (fun t51_5 => ?_) (fun t51_5 => ?_))
          · have t51_5 : (k = 0 ∨ v2 = k ∨ (k = 1 ∧ v2 = 3) ∨ (k = 2 ∧ v2 = 4)) := t51_5
            show Aj γ mX8_ask d 0 0 Post 54 [(3, vA (98 + 5 * (Int.toNat s))), (0, vA 0), (1, vI s), (2, vI k)] [vI 1] (mk h τ)
            refine a_if_ne (tgt := 60) dX8_ask_54 (by decide) (fun _ => ?_) (fun c => absurd c (by decide))
            refine a_aload_n (j := 0) dX8_ask_60 rfl rfl (Nat.le_of_ble_eq_true rfl) ?_
            refine b_getp (a := (98 + 5 * (Int.toNat s))) (p := ((98 + 5 * (Int.toNat s)) + 1)) dX8_ask_61 fwX8_302 (by have := (sl_i (show (Int.toNat s) < 5 by omega)).2.2.1; omega) (sl_i (show (Int.toNat s) < 5 by omega)).2.1 (by decide) (sl_i (show (Int.toNat s) < 5 by omega)).2.2.2.2.2.1 rfl ?_
            refine b_callV (d' := d - 1) (mc' := 0) (ms' := 0) (mc1 := 0) (ms1 := 0) (st := []) (b := ((98 + 5 * (Int.toNat s)) + 1)) [] dX8_ask_64 mwX6_fare lkX8_319 (by have := (sl_i (show (Int.toNat s) < 5 by omega)).2.2.2.2.2.2.2.1.1; omega) (sl_i (show (Int.toNat s) < 5 by omega)).2.2.2.2.2.2.2.1.2.1 rc_X6 rfl (Nat.le_of_ble_eq_true rfl) (by omega) rfl rfl (c_X6_fare (v1 := v3) (v2 := v2) (by omega) (sl_i (show (Int.toNat s) < 5 by omega)).2.2.2.2.2.2.2.1 e3 e2 (show 0 ≤ v3 ∧ v3 ≤ 999 by omega) ?_)
            show Aj γ mX8_ask d 0 0 Post 67 [(3, vA (98 + 5 * (Int.toNat s))), (0, vA 0), (1, vI s), (2, vI k)] [vI (farF v2 v3)] (mk h τ)
            exact a_iret dX8_ask_67 rfl (k2 t1_1 t8_2 c28_3 c40_4 t51_5)
          · have t51_5 : ¬ ((k = 0 ∨ v2 = k ∨ (k = 1 ∧ v2 = 3) ∨ (k = 2 ∧ v2 = 4))) := t51_5
            show Aj γ mX8_ask d 0 0 Post 54 [(3, vA (98 + 5 * (Int.toNat s))), (0, vA 0), (1, vI s), (2, vI k)] [vI 0] (mk h τ)
            refine a_if_ne (tgt := 60) dX8_ask_54 (by decide) (fun c => absurd c (by decide)) (fun _ => ?_)
            refine a_ldc (z := (-1000000012)) dX8_ask_57 kwX8_148 ⟨by decide, by decide, by decide⟩ ?_
            exact a_iret dX8_ask_59 rfl (k3 t1_1 t8_2 c28_3 c40_4 t51_5)
      · refine a_ldcw (z := (-1000000011)) dX8_ask_31 kwX8_276 ⟨by decide, by decide, by decide⟩ ?_
        exact a_iret dX8_ask_34 rfl (k4 t1_1 t8_2 c28_3)
    · have t8_2 : ¬ (0 ≤ k ∧ k ≤ 5) := t8_2
      show Aj γ mX8_ask d 0 0 Post 11 [(0, vA 0), (1, vI s), (2, vI k)] [vI 0] (mk h τ)
      refine a_if_ne (tgt := 17) dX8_ask_11 (by decide) (fun c => absurd c (by decide)) (fun _ => ?_)
      refine a_ldc (z := (-1000000001)) dX8_ask_14 kwX8_72 ⟨by decide, by decide, by decide⟩ ?_
      exact a_iret dX8_ask_16 rfl (k5 t1_1 t8_2)
  · have t1_1 : ¬ (0 ≤ s ∧ s ≤ 4) := t1_1
    show Aj γ mX8_ask d 0 0 Post 4 [(0, vA 0), (1, vI s), (2, vI k)] [vI 0] (mk h τ)
    refine a_if_eq (tgt := 14) dX8_ask_4 (by decide) (fun _ => ?_) (fun c => absurd c (by decide))
    refine a_ldc (z := (-1000000001)) dX8_ask_14 kwX8_72 ⟨by decide, by decide, by decide⟩ ?_
    exact a_iret dX8_ask_16 rfl (k6 t1_1)
set_option maxHeartbeats 8000000 in
theorem c_X8_copy {γ : GT} {d : Nat} {s p u q m : Int} {h : Nat → Nat → Int} {τ : List AC} {Post : Option AV → List AC → Prop} (hd : 2 ≤ d) {v1 : Int} (e1 : h (90 + 2 * (Int.toNat s)) 1 = v1) {v2 : Int} (e2 : h (90 + 2 * (Int.toNat u)) 1 = v2) {v3 : Int} (e3 : h (90 + 2 * (Int.toNat s)) 0 = v3) {v4 : Int} (e4 : h (90 + 2 * (Int.toNat u)) 0 = v4) {f5 : Nat → Int} (r5 : h ((90 + 2 * (Int.toNat s)) + 1) = f5) {f6 : Nat → Int} (r6 : h ((90 + 2 * (Int.toNat u)) + 1) = f6) (hZ : Im s 4 (0 ≤ v1 ∧ v1 ≤ 24)) (hU : Im u 4 (0 ≤ v2 ∧ v2 ≤ 24)) (k1 : (0 ≤ s ∧ s ≤ 3) → (0 ≤ u ∧ u ≤ 3) → (v3 = (-1)) → Post (some (vI (-1000000011))) (mk h τ)) (k2 : (0 ≤ s ∧ s ≤ 3) → (0 ≤ u ∧ u ≤ 3) → (¬ v3 = (-1)) → (¬ v4 = (-1)) → (v3 = v4) → ((0 ≤ p ∧ p ≤ v1) ∧ (0 ≤ m ∧ m ≤ v1 - p)) → ((0 ≤ q ∧ q ≤ v2) ∧ (0 ≤ m ∧ m ≤ v2 - q)) → Post (some (vI m)) (mk (upR h ((90 + 2 * (Int.toNat u)) + 1) (cpy f5 f6 (Int.toNat p) (Int.toNat q) (Int.toNat m))) τ)) (k3 : (0 ≤ s ∧ s ≤ 3) → (0 ≤ u ∧ u ≤ 3) → (¬ v3 = (-1)) → (¬ v4 = (-1)) → (v3 = v4) → ((0 ≤ p ∧ p ≤ v1) ∧ (0 ≤ m ∧ m ≤ v1 - p)) → (¬ ((0 ≤ q ∧ q ≤ v2) ∧ (0 ≤ m ∧ m ≤ v2 - q))) → Post (some (vI (-1000000013))) (mk h τ)) (k4 : (0 ≤ s ∧ s ≤ 3) → (0 ≤ u ∧ u ≤ 3) → (¬ v3 = (-1)) → (¬ v4 = (-1)) → (v3 = v4) → (¬ ((0 ≤ p ∧ p ≤ v1) ∧ (0 ≤ m ∧ m ≤ v1 - p))) → Post (some (vI (-1000000013))) (mk h τ)) (k5 : (0 ≤ s ∧ s ≤ 3) → (0 ≤ u ∧ u ≤ 3) → (¬ v3 = (-1)) → (¬ v4 = (-1)) → (¬ v3 = v4) → Post (some (vI (-1000000012))) (mk h τ)) (k6 : (0 ≤ s ∧ s ≤ 3) → (0 ≤ u ∧ u ≤ 3) → (¬ v3 = (-1)) → (v4 = (-1)) → Post (some (vI (-1000000011))) (mk h τ)) (k7 : (0 ≤ s ∧ s ≤ 3) → (¬ (0 ≤ u ∧ u ≤ 3)) → Post (some (vI (-1000000001))) (mk h τ)) (k8 : (¬ (0 ≤ s ∧ s ≤ 3)) → Post (some (vI (-1000000001))) (mk h τ)) : Cj γ mX8_copy d 0 0 [vA 0, vI s, vI p, vI u, vI q, vI m] (mk h τ) Post := by
  refine c_of (by decide) (Nat.le_of_ble_eq_true rfl) ?_
  show Aj γ mX8_copy d 0 0 Post 0 [(0, vA 0), (1, vI s), (2, vI p), (3, vI u), (4, vI q), (5, vI m)] [] (mk h τ)
  refine a_iload_n (j := 1) dX8_copy_0 rfl rfl ?_
  refine a_callS (d' := d - 1) (mc' := 0) (ms' := 0) (mc1 := 0) (ms1 := 0) (st := []) [vI s] dX8_copy_1 mwX8_isSheet lkX8_266 rfl (Nat.le_of_ble_eq_true rfl) (by omega) rfl rfl (c_X8_isSheet  (by omega)    (fun t1_1 => ?_) (fun t1_1 => ?_))
  · have t1_1 : 0 ≤ s ∧ s ≤ 3 := t1_1
    show Aj γ mX8_copy d 0 0 Post 4 [(0, vA 0), (1, vI s), (2, vI p), (3, vI u), (4, vI q), (5, vI m)] [vI 1] (mk h τ)
    refine a_if_eq (tgt := 14) dX8_copy_4 (by decide) (fun c => absurd c (by decide)) (fun _ => ?_)
    refine a_iload_n (j := 3) dX8_copy_7 rfl rfl ?_
    refine a_callS (d' := d - 1) (mc' := 0) (ms' := 0) (mc1 := 0) (ms1 := 0) (st := []) [vI u] dX8_copy_8 mwX8_isSheet lkX8_266 rfl (Nat.le_of_ble_eq_true rfl) (by omega) rfl rfl (c_X8_isSheet  (by omega)    (fun t8_2 => ?_) (fun t8_2 => ?_))
    · have t8_2 : 0 ≤ u ∧ u ≤ 3 := t8_2
      show Aj γ mX8_copy d 0 0 Post 11 [(0, vA 0), (1, vI s), (2, vI p), (3, vI u), (4, vI q), (5, vI m)] [vI 1] (mk h τ)
      refine a_if_ne (tgt := 17) dX8_copy_11 (by decide) (fun _ => ?_) (fun c => absurd c (by decide))
      have hZ := hZ (by omega) (by omega)
      have hU := hU (by omega) (by omega)
      refine a_aload_n (j := 0) dX8_copy_17 rfl rfl (Nat.le_of_ble_eq_true rfl) ?_
      refine b_getp (a := 0) (p := 87) dX8_copy_18 fwX8_52 (by decide) rfl (by decide) rfl rfl ?_
      refine a_iload_n (j := 1) dX8_copy_21 rfl rfl ?_
      refine b_aaloadp (a := 87) (p := (90 + 2 * (Int.toNat s))) (Int.toNat s) dX8_copy_22 (by decide) rfl qa_15 (by omega) (by omega) (sh_i (show (Int.toNat s) < 4 by omega)).2 ?_
      refine a_astore (lv' := [(6, vA (90 + 2 * (Int.toNat s))), (0, vA 0), (1, vI s), (2, vI p), (3, vI u), (4, vI q), (5, vI m)]) dX8_copy_23 (by decide) (Nat.le_of_ble_eq_true rfl) rfl ?_
      refine a_aload_n (j := 1) dX8_copy_25 rfl rfl (Nat.le_of_ble_eq_true rfl) ?_
      refine b_getp (a := 0) (p := 87) dX8_copy_26 fwX8_52 (by decide) rfl (by decide) rfl rfl ?_
      refine a_iload_n (j := 4) dX8_copy_29 rfl rfl ?_
      refine b_aaloadp (a := 87) (p := (90 + 2 * (Int.toNat u))) (Int.toNat u) dX8_copy_30 (by decide) rfl qa_15 (by omega) (by omega) (sh_i (show (Int.toNat u) < 4 by omega)).2 ?_
      refine a_astore (lv' := [(7, vA (90 + 2 * (Int.toNat u))), (6, vA (90 + 2 * (Int.toNat s))), (0, vA 0), (1, vI s), (2, vI p), (3, vI u), (4, vI q), (5, vI m)]) dX8_copy_31 (by decide) (Nat.le_of_ble_eq_true rfl) rfl ?_
      refine a_aload (j := 1) dX8_copy_33 rfl (Nat.le_of_ble_eq_true rfl) ?_
      refine b_get (a := (90 + 2 * (Int.toNat s))) (z := v3) (t := 0) dX8_copy_35 fwX8_273 (by have := (sh_i (show (Int.toNat s) < 4 by omega)).1.1; omega) (sh_i (show (Int.toNat s) < 4 by omega)).1.2.1 (by decide) (sh_s (sh_i (show (Int.toNat s) < 4 by omega)).1 (by decide)) rfl e3 ?_
      refine a_iconst dX8_copy_38 ⟨by decide, by decide⟩ ?_
      refine a_icmp_eq (tgt := 51) dX8_copy_39 (by decide) (fun c39_3 => ?_) (fun c39_3 => ?_)
      · refine a_ldcw (z := (-1000000011)) dX8_copy_51 kwX8_276 ⟨by decide, by decide, by decide⟩ ?_
        exact a_iret dX8_copy_54 rfl (k1 t1_1 t8_2 c39_3)
      · refine a_aload (j := 0) dX8_copy_42 rfl (Nat.le_of_ble_eq_true rfl) ?_
        refine b_get (a := (90 + 2 * (Int.toNat u))) (z := v4) (t := 0) dX8_copy_44 fwX8_273 (by have := (sh_i (show (Int.toNat u) < 4 by omega)).1.1; omega) (sh_i (show (Int.toNat u) < 4 by omega)).1.2.1 (by decide) (sh_s (sh_i (show (Int.toNat u) < 4 by omega)).1 (by decide)) rfl e4 ?_
        refine a_iconst dX8_copy_47 ⟨by decide, by decide⟩ ?_
        refine a_icmp_ne (tgt := 55) dX8_copy_48 (by decide) (fun c48_4 => ?_) (fun c48_4 => ?_)
        · refine a_aload (j := 1) dX8_copy_55 rfl (Nat.le_of_ble_eq_true rfl) ?_
          refine b_get (a := (90 + 2 * (Int.toNat s))) (z := v3) (t := 0) dX8_copy_57 fwX8_273 (by have := (sh_i (show (Int.toNat s) < 4 by omega)).1.1; omega) (sh_i (show (Int.toNat s) < 4 by omega)).1.2.1 (by decide) (sh_s (sh_i (show (Int.toNat s) < 4 by omega)).1 (by decide)) rfl e3 ?_
          refine a_aload (j := 0) dX8_copy_60 rfl (Nat.le_of_ble_eq_true rfl) ?_
          refine b_get (a := (90 + 2 * (Int.toNat u))) (z := v4) (t := 0) dX8_copy_62 fwX8_273 (by have := (sh_i (show (Int.toNat u) < 4 by omega)).1.1; omega) (sh_i (show (Int.toNat u) < 4 by omega)).1.2.1 (by decide) (sh_s (sh_i (show (Int.toNat u) < 4 by omega)).1 (by decide)) rfl e4 ?_
          refine a_icmp_eq (tgt := 71) dX8_copy_65 (by decide) (fun c65_5 => ?_) (fun c65_5 => ?_)
          · refine a_aload (j := 1) dX8_copy_71 rfl (Nat.le_of_ble_eq_true rfl) ?_
            refine a_iload_n (j := 4) dX8_copy_73 rfl rfl ?_
            refine a_iload (j := 7) dX8_copy_74 rfl ?_
            refine b_callV (d' := d - 1) (mc' := 0) (ms' := 0) (mc1 := 0) (ms1 := 0) (st := []) (b := (90 + 2 * (Int.toNat s))) [vI p, vI m] dX8_copy_76 mwX1_hasRun lkX8_287 (by have := (sh_i (show (Int.toNat s) < 4 by omega)).1.1; omega) (sh_i (show (Int.toNat s) < 4 by omega)).1.2.1 rc_X1 rfl (Nat.le_of_ble_eq_true rfl) (by omega) rfl rfl (c_X1_hasRun (v1 := v1) (by omega) (sh_i (show (Int.toNat s) < 4 by omega)).1 e1 (show 0 ≤ v1 ∧ v1 ≤ 24 by omega) (fun t76_6 => ?_) (fun t76_6 => ?_))
            · have t76_6 : (0 ≤ p ∧ p ≤ v1) ∧ (0 ≤ m ∧ m ≤ v1 - p) := t76_6
              show Aj γ mX8_copy d 0 0 Post 79 [(7, vA (90 + 2 * (Int.toNat u))), (6, vA (90 + 2 * (Int.toNat s))), (0, vA 0), (1, vI s), (2, vI p), (3, vI u), (4, vI q), (5, vI m)] [vI 1] (mk h τ)
              refine a_if_eq (tgt := 94) dX8_copy_79 (by decide) (fun c => absurd c (by decide)) (fun _ => ?_)
              refine a_aload (j := 0) dX8_copy_82 rfl (Nat.le_of_ble_eq_true rfl) ?_
              refine a_iload (j := 6) dX8_copy_84 rfl ?_
              refine a_iload (j := 7) dX8_copy_86 rfl ?_
              refine b_callV (d' := d - 1) (mc' := 0) (ms' := 0) (mc1 := 0) (ms1 := 0) (st := []) (b := (90 + 2 * (Int.toNat u))) [vI q, vI m] dX8_copy_88 mwX1_hasRun lkX8_287 (by have := (sh_i (show (Int.toNat u) < 4 by omega)).1.1; omega) (sh_i (show (Int.toNat u) < 4 by omega)).1.2.1 rc_X1 rfl (Nat.le_of_ble_eq_true rfl) (by omega) rfl rfl (c_X1_hasRun (v1 := v2) (by omega) (sh_i (show (Int.toNat u) < 4 by omega)).1 e2 (show 0 ≤ v2 ∧ v2 ≤ 24 by omega) (fun t88_7 => ?_) (fun t88_7 => ?_))
              · have t88_7 : (0 ≤ q ∧ q ≤ v2) ∧ (0 ≤ m ∧ m ≤ v2 - q) := t88_7
                show Aj γ mX8_copy d 0 0 Post 91 [(7, vA (90 + 2 * (Int.toNat u))), (6, vA (90 + 2 * (Int.toNat s))), (0, vA 0), (1, vI s), (2, vI p), (3, vI u), (4, vI q), (5, vI m)] [vI 1] (mk h τ)
                refine a_if_ne (tgt := 98) dX8_copy_91 (by decide) (fun _ => ?_) (fun c => absurd c (by decide))
                refine a_aload (j := 1) dX8_copy_98 rfl (Nat.le_of_ble_eq_true rfl) ?_
                refine b_getp (a := (90 + 2 * (Int.toNat s))) (p := ((90 + 2 * (Int.toNat s)) + 1)) dX8_copy_100 fwX8_281 (by have := (sh_i (show (Int.toNat s) < 4 by omega)).1.1; omega) (sh_i (show (Int.toNat s) < 4 by omega)).1.2.1 (by decide) (sh_p (sh_i (show (Int.toNat s) < 4 by omega)).1) rfl ?_
                refine a_iload_n (j := 4) dX8_copy_103 rfl rfl ?_
                refine a_aload (j := 0) dX8_copy_104 rfl (Nat.le_of_ble_eq_true rfl) ?_
                refine b_getp (a := (90 + 2 * (Int.toNat u))) (p := ((90 + 2 * (Int.toNat u)) + 1)) dX8_copy_106 fwX8_281 (by have := (sh_i (show (Int.toNat u) < 4 by omega)).1.1; omega) (sh_i (show (Int.toNat u) < 4 by omega)).1.2.1 (by decide) (sh_p (sh_i (show (Int.toNat u) < 4 by omega)).1) rfl ?_
                refine a_iload (j := 6) dX8_copy_109 rfl ?_
                refine a_iload (j := 7) dX8_copy_111 rfl ?_
                refine b_copyR (a := ((90 + 2 * (Int.toNat s)) + 1)) (b := ((90 + 2 * (Int.toNat u)) + 1)) (sp' := (Int.toNat p)) (dp := (Int.toNat q)) (n := (Int.toNat m)) (f := f5) (g := f6) dX8_copy_113 alX8_290 (sh_i (show (Int.toNat s) < 4 by omega)).1.1 (sh_i (show (Int.toNat u) < 4 by omega)).1.1 (sh_i (show (Int.toNat s) < 4 by omega)).1.2.2.1 (sh_i (show (Int.toNat u) < 4 by omega)).1.2.2.1 (fun _ => (sh_c (sh_i (show (Int.toNat s) < 4 by omega)).1)) (fun _ => (sh_c (sh_i (show (Int.toNat u) < 4 by omega)).1)) (by omega) (by omega) (by omega) (by omega) (by omega) (Nat.le_of_ble_eq_true rfl) (by omega) r5 r6 ?_
                show Aj γ mX8_copy d 0 0 Post 116 [(7, vA (90 + 2 * (Int.toNat u))), (6, vA (90 + 2 * (Int.toNat s))), (0, vA 0), (1, vI s), (2, vI p), (3, vI u), (4, vI q), (5, vI m)] [] (mk (upR h ((90 + 2 * (Int.toNat u)) + 1) (cpy f5 f6 (Int.toNat p) (Int.toNat q) (Int.toNat m))) τ)
                refine a_iload (j := 7) dX8_copy_116 rfl ?_
                exact a_iret dX8_copy_118 rfl (k2 t1_1 t8_2 c39_3 c48_4 c65_5 t76_6 t88_7)
              · have t88_7 : ¬ ((0 ≤ q ∧ q ≤ v2) ∧ (0 ≤ m ∧ m ≤ v2 - q)) := t88_7
                show Aj γ mX8_copy d 0 0 Post 91 [(7, vA (90 + 2 * (Int.toNat u))), (6, vA (90 + 2 * (Int.toNat s))), (0, vA 0), (1, vI s), (2, vI p), (3, vI u), (4, vI q), (5, vI m)] [vI 0] (mk h τ)
                refine a_if_ne (tgt := 98) dX8_copy_91 (by decide) (fun c => absurd c (by decide)) (fun _ => ?_)
                refine a_ldcw (z := (-1000000013)) dX8_copy_94 kwX8_280 ⟨by decide, by decide, by decide⟩ ?_
                exact a_iret dX8_copy_97 rfl (k3 t1_1 t8_2 c39_3 c48_4 c65_5 t76_6 t88_7)
            · have t76_6 : ¬ ((0 ≤ p ∧ p ≤ v1) ∧ (0 ≤ m ∧ m ≤ v1 - p)) := t76_6
              show Aj γ mX8_copy d 0 0 Post 79 [(7, vA (90 + 2 * (Int.toNat u))), (6, vA (90 + 2 * (Int.toNat s))), (0, vA 0), (1, vI s), (2, vI p), (3, vI u), (4, vI q), (5, vI m)] [vI 0] (mk h τ)
              refine a_if_eq (tgt := 94) dX8_copy_79 (by decide) (fun _ => ?_) (fun c => absurd c (by decide))
              refine a_ldcw (z := (-1000000013)) dX8_copy_94 kwX8_280 ⟨by decide, by decide, by decide⟩ ?_
              exact a_iret dX8_copy_97 rfl (k4 t1_1 t8_2 c39_3 c48_4 c65_5 t76_6)
          · refine a_ldc (z := (-1000000012)) dX8_copy_68 kwX8_148 ⟨by decide, by decide, by decide⟩ ?_
            exact a_iret dX8_copy_70 rfl (k5 t1_1 t8_2 c39_3 c48_4 c65_5)
        · refine a_ldcw (z := (-1000000011)) dX8_copy_51 kwX8_276 ⟨by decide, by decide, by decide⟩ ?_
          exact a_iret dX8_copy_54 rfl (k6 t1_1 t8_2 c39_3 c48_4)
    · have t8_2 : ¬ (0 ≤ u ∧ u ≤ 3) := t8_2
      show Aj γ mX8_copy d 0 0 Post 11 [(0, vA 0), (1, vI s), (2, vI p), (3, vI u), (4, vI q), (5, vI m)] [vI 0] (mk h τ)
      refine a_if_ne (tgt := 17) dX8_copy_11 (by decide) (fun c => absurd c (by decide)) (fun _ => ?_)
      refine a_ldc (z := (-1000000001)) dX8_copy_14 kwX8_72 ⟨by decide, by decide, by decide⟩ ?_
      exact a_iret dX8_copy_16 rfl (k7 t1_1 t8_2)
  · have t1_1 : ¬ (0 ≤ s ∧ s ≤ 3) := t1_1
    show Aj γ mX8_copy d 0 0 Post 4 [(0, vA 0), (1, vI s), (2, vI p), (3, vI u), (4, vI q), (5, vI m)] [vI 0] (mk h τ)
    refine a_if_eq (tgt := 14) dX8_copy_4 (by decide) (fun _ => ?_) (fun c => absurd c (by decide))
    refine a_ldc (z := (-1000000001)) dX8_copy_14 kwX8_72 ⟨by decide, by decide, by decide⟩ ?_
    exact a_iret dX8_copy_16 rfl (k8 t1_1)
set_option maxHeartbeats 8000000 in
theorem c_X8_train {γ : GT} {d : Nat} {k e l t : Int} {h : Nat → Nat → Int} {τ : List AC} {Post : Option AV → List AC → Prop} (hd : 3 ≤ d) {v1 : Int} (e1 : h 1 1 = v1) {v2 : Int} (e2 : h 1 3 = v2) {v3 : Int} (e3 : h 0 3 = v3) {f4 : Nat → Int} (r4 : h ((8 + 2 * (Int.toNat v2)) + 1) = f4) (hS : 0 ≤ v1 ∧ v1 ≤ 6) (hN : 0 ≤ v2 ∧ v2 ≤ 12) (hs : 0 ≤ v3 ∧ v3 ≤ 1000) (k1 : (0 ≤ k ∧ k ≤ 5) → (0 ≤ (Int.tdiv e 10) ∧ (Int.tdiv e 10) < v1) → (0 ≤ (Int.tmod e 10) ∧ (Int.tmod e 10) < v1) → ((Int.tdiv e 10) = (Int.tmod e 10)) → Post (some (vI (-1000000001))) (mk h τ)) (k2 : (0 ≤ k ∧ k ≤ 5) → (0 ≤ (Int.tdiv e 10) ∧ (Int.tdiv e 10) < v1) → (0 ≤ (Int.tmod e 10) ∧ (Int.tmod e 10) < v1) → (¬ (Int.tdiv e 10) = (Int.tmod e 10)) → (0 ≤ l ∧ l ≤ 1439) → (1 ≤ t ∧ t ≤ 600) → (v2 < 12) → Post (some (vI ((v2 + 1) - 1))) (mk (up2 (up2 (up2 (up2 (up2 (up2 (upR (up2 (up2 (up2 (up2 (up2 h (8 + 2 * (Int.toNat v2)) 0 k) (8 + 2 * (Int.toNat v2)) 1 (Int.tdiv e 10)) (8 + 2 * (Int.toNat v2)) 2 (Int.tmod e 10)) (8 + 2 * (Int.toNat v2)) 5 0) (8 + 2 * (Int.toNat v2)) 6 (-1000000005)) ((8 + 2 * (Int.toNat v2)) + 1) (fillR 0 4 f4)) ((8 + 2 * (Int.toNat v2)) + 1) 0 100) (8 + 2 * (Int.toNat v2)) 3 l) (8 + 2 * (Int.toNat v2)) 4 t) 1 3 (v2 + 1)) 0 3 (v3 + 1)) 1 0 (v3 + 1)) τ)) (k3 : (0 ≤ k ∧ k ≤ 5) → (0 ≤ (Int.tdiv e 10) ∧ (Int.tdiv e 10) < v1) → (0 ≤ (Int.tmod e 10) ∧ (Int.tmod e 10) < v1) → (¬ (Int.tdiv e 10) = (Int.tmod e 10)) → (0 ≤ l ∧ l ≤ 1439) → (1 ≤ t ∧ t ≤ 600) → (¬ v2 < 12) → Post (some (vI (-1000000003))) (mk h τ)) (k4 : (0 ≤ k ∧ k ≤ 5) → (0 ≤ (Int.tdiv e 10) ∧ (Int.tdiv e 10) < v1) → (0 ≤ (Int.tmod e 10) ∧ (Int.tmod e 10) < v1) → (¬ (Int.tdiv e 10) = (Int.tmod e 10)) → (0 ≤ l ∧ l ≤ 1439) → (¬ (1 ≤ t ∧ t ≤ 600)) → Post (some (vI (-1000000001))) (mk h τ)) (k5 : (0 ≤ k ∧ k ≤ 5) → (0 ≤ (Int.tdiv e 10) ∧ (Int.tdiv e 10) < v1) → (0 ≤ (Int.tmod e 10) ∧ (Int.tmod e 10) < v1) → (¬ (Int.tdiv e 10) = (Int.tmod e 10)) → (¬ (0 ≤ l ∧ l ≤ 1439)) → Post (some (vI (-1000000001))) (mk h τ)) (k6 : (0 ≤ k ∧ k ≤ 5) → (0 ≤ (Int.tdiv e 10) ∧ (Int.tdiv e 10) < v1) → (¬ (0 ≤ (Int.tmod e 10) ∧ (Int.tmod e 10) < v1)) → Post (some (vI (-1000000001))) (mk h τ)) (k7 : (0 ≤ k ∧ k ≤ 5) → (¬ (0 ≤ (Int.tdiv e 10) ∧ (Int.tdiv e 10) < v1)) → Post (some (vI (-1000000001))) (mk h τ)) (k8 : (¬ (0 ≤ k ∧ k ≤ 5)) → Post (some (vI (-1000000001))) (mk h τ)) : Cj γ mX8_train d 0 0 [vA 0, vI k, vI e, vI l, vI t] (mk h τ) Post := by
  refine c_of (by decide) (Nat.le_of_ble_eq_true rfl) ?_
  show Aj γ mX8_train d 0 0 Post 0 [(0, vA 0), (1, vI k), (2, vI e), (3, vI l), (4, vI t)] [] (mk h τ)
  refine a_ok fun _ _ hlv => ?_
  have he : inI e := hlv (2, vI e) (by simp)
  unfold inI at he
  refine a_iload_n (j := 2) dX8_train_0 rfl rfl ?_
  refine a_bipush dX8_train_1 ⟨by decide, by decide, by decide⟩ ?_
  refine a_idiv (z := (Int.tdiv e 10)) dX8_train_3 (by omega) (w_div10 (by omega) (by omega) (by omega)) ?_
  refine a_istore (lv' := [(5, vI (Int.tdiv e 10)), (0, vA 0), (1, vI k), (2, vI e), (3, vI l), (4, vI t)]) dX8_train_4 (by decide) rfl ?_
  refine a_iload_n (j := 3) dX8_train_6 rfl rfl ?_
  refine a_bipush dX8_train_7 ⟨by decide, by decide, by decide⟩ ?_
  refine a_irem (z := (Int.tmod e 10)) dX8_train_9 (by omega) (w_rem (by omega) (by omega) (by omega)) ?_
  refine a_istore (lv' := [(6, vI (Int.tmod e 10)), (5, vI (Int.tdiv e 10)), (0, vA 0), (1, vI k), (2, vI e), (3, vI l), (4, vI t)]) dX8_train_10 (by decide) rfl ?_
  refine a_iload_n (j := 3) dX8_train_12 rfl rfl ?_
  refine a_callS (d' := d - 1) (mc' := 0) (ms' := 0) (mc1 := 0) (ms1 := 0) (st := []) [vI k] dX8_train_13 mwX8_isKind lkX8_93 rfl (Nat.le_of_ble_eq_true rfl) (by omega) rfl rfl (c_X8_isKind  (by omega)    (fun t13_1 => ?_) (fun t13_1 => ?_))
  · have t13_1 : 0 ≤ k ∧ k ≤ 5 := t13_1
    show Aj γ mX8_train d 0 0 Post 16 [(6, vI (Int.tmod e 10)), (5, vI (Int.tdiv e 10)), (0, vA 0), (1, vI k), (2, vI e), (3, vI l), (4, vI t)] [vI 1] (mk h τ)
    refine a_if_eq (tgt := 54) dX8_train_16 (by decide) (fun c => absurd c (by decide)) (fun _ => ?_)
    refine a_aload_n (j := 2) dX8_train_19 rfl rfl (Nat.le_of_ble_eq_true rfl) ?_
    refine b_getp (a := 0) (p := 1) dX8_train_20 fwX8_14 (by decide) rfl (by decide) rfl rfl ?_
    refine a_iload (j := 1) dX8_train_23 rfl ?_
    refine b_callV (d' := d - 1) (mc' := 0) (ms' := 0) (mc1 := 0) (ms1 := 0) (st := []) (b := 1) [vI (Int.tdiv e 10)] dX8_train_25 mwX7_isStop lkX8_84 (by decide) rfl rc_X7 rfl (Nat.le_of_ble_eq_true rfl) (by omega) rfl rfl (c_X7_isStop (v1 := v1) (by omega) (Or.inl rfl) e1 (show 0 ≤ v1 ∧ v1 ≤ 6 by omega) (fun t25_2 => ?_) (fun t25_2 => ?_))
    · have t25_2 : 0 ≤ (Int.tdiv e 10) ∧ (Int.tdiv e 10) < v1 := t25_2
      show Aj γ mX8_train d 0 0 Post 28 [(6, vI (Int.tmod e 10)), (5, vI (Int.tdiv e 10)), (0, vA 0), (1, vI k), (2, vI e), (3, vI l), (4, vI t)] [vI 1] (mk h τ)
      refine a_if_eq (tgt := 54) dX8_train_28 (by decide) (fun c => absurd c (by decide)) (fun _ => ?_)
      refine a_aload_n (j := 2) dX8_train_31 rfl rfl (Nat.le_of_ble_eq_true rfl) ?_
      refine b_getp (a := 0) (p := 1) dX8_train_32 fwX8_14 (by decide) rfl (by decide) rfl rfl ?_
      refine a_iload (j := 0) dX8_train_35 rfl ?_
      refine b_callV (d' := d - 1) (mc' := 0) (ms' := 0) (mc1 := 0) (ms1 := 0) (st := []) (b := 1) [vI (Int.tmod e 10)] dX8_train_37 mwX7_isStop lkX8_84 (by decide) rfl rc_X7 rfl (Nat.le_of_ble_eq_true rfl) (by omega) rfl rfl (c_X7_isStop (v1 := v1) (by omega) (Or.inl rfl) e1 (show 0 ≤ v1 ∧ v1 ≤ 6 by omega) (fun t37_3 => ?_) (fun t37_3 => ?_))
      · have t37_3 : 0 ≤ (Int.tmod e 10) ∧ (Int.tmod e 10) < v1 := t37_3
        show Aj γ mX8_train d 0 0 Post 40 [(6, vI (Int.tmod e 10)), (5, vI (Int.tdiv e 10)), (0, vA 0), (1, vI k), (2, vI e), (3, vI l), (4, vI t)] [vI 1] (mk h τ)
        refine a_if_eq (tgt := 54) dX8_train_40 (by decide) (fun c => absurd c (by decide)) (fun _ => ?_)
        refine a_iload (j := 1) dX8_train_43 rfl ?_
        refine a_iload (j := 0) dX8_train_45 rfl ?_
        refine a_icmp_eq (tgt := 54) dX8_train_47 (by decide) (fun c47_4 => ?_) (fun c47_4 => ?_)
        · refine a_iconst dX8_train_54 ⟨by decide, by decide⟩ ?_
          refine a_istore (lv' := [(7, vI 0), (6, vI (Int.tmod e 10)), (5, vI (Int.tdiv e 10)), (0, vA 0), (1, vI k), (2, vI e), (3, vI l), (4, vI t)]) dX8_train_55 (by decide) rfl ?_
          refine a_iload (j := 0) dX8_train_57 rfl ?_
          refine a_if_eq (tgt := 77) dX8_train_59 (by decide) (fun _ => ?_) (fun c => absurd c (by decide))
          refine a_ldc (z := (-1000000001)) dX8_train_77 kwX8_72 ⟨by decide, by decide, by decide⟩ ?_
          exact a_iret dX8_train_79 rfl (k1 t13_1 t25_2 t37_3 c47_4)
        · refine a_iconst dX8_train_50 ⟨by decide, by decide⟩ ?_
          refine a_goto (tgt := 55) dX8_train_51 (by decide) ?_
          refine a_istore (lv' := [(7, vI 1), (6, vI (Int.tmod e 10)), (5, vI (Int.tdiv e 10)), (0, vA 0), (1, vI k), (2, vI e), (3, vI l), (4, vI t)]) dX8_train_55 (by decide) rfl ?_
          refine a_iload (j := 0) dX8_train_57 rfl ?_
          refine a_if_eq (tgt := 77) dX8_train_59 (by decide) (fun c => absurd c (by decide)) (fun _ => ?_)
          refine a_iload_n (j := 6) dX8_train_62 rfl rfl ?_
          refine a_callS (d' := d - 1) (mc' := 0) (ms' := 0) (mc1 := 0) (ms1 := 0) (st := []) [vI l] dX8_train_63 mwX8_isLeave lkX8_96 rfl (Nat.le_of_ble_eq_true rfl) (by omega) rfl rfl (c_X8_isLeave  (by omega)    (fun t63_5 => ?_) (fun t63_5 => ?_))
          · have t63_5 : 0 ≤ l ∧ l ≤ 1439 := t63_5
            show Aj γ mX8_train d 0 0 Post 66 [(7, vI 1), (6, vI (Int.tmod e 10)), (5, vI (Int.tdiv e 10)), (0, vA 0), (1, vI k), (2, vI e), (3, vI l), (4, vI t)] [vI 1] (mk h τ)
            refine a_if_eq (tgt := 77) dX8_train_66 (by decide) (fun c => absurd c (by decide)) (fun _ => ?_)
            refine a_iload (j := 7) dX8_train_69 rfl ?_
            refine a_callS (d' := d - 1) (mc' := 0) (ms' := 0) (mc1 := 0) (ms1 := 0) (st := []) [vI t] dX8_train_71 mwX8_isTakes lkX8_99 rfl (Nat.le_of_ble_eq_true rfl) (by omega) rfl rfl (c_X8_isTakes  (by omega)    (fun t71_6 => ?_) (fun t71_6 => ?_))
            · have t71_6 : 1 ≤ t ∧ t ≤ 600 := t71_6
              show Aj γ mX8_train d 0 0 Post 74 [(7, vI 1), (6, vI (Int.tmod e 10)), (5, vI (Int.tdiv e 10)), (0, vA 0), (1, vI k), (2, vI e), (3, vI l), (4, vI t)] [vI 1] (mk h τ)
              refine a_if_ne (tgt := 80) dX8_train_74 (by decide) (fun _ => ?_) (fun c => absurd c (by decide))
              refine a_aload_n (j := 3) dX8_train_80 rfl rfl (Nat.le_of_ble_eq_true rfl) ?_
              refine b_getp (a := 0) (p := 1) dX8_train_81 fwX8_14 (by decide) rfl (by decide) rfl rfl ?_
              refine b_get (a := 1) (z := v2) (t := 0) dX8_train_84 fwX8_102 (by decide) rfl (by decide) rfl rfl e2 ?_
              refine a_bipush dX8_train_87 ⟨by decide, by decide, by decide⟩ ?_
              refine a_icmp_lt (tgt := 95) dX8_train_89 (by decide) (fun c89_7 => ?_) (fun c89_7 => ?_)
              · refine a_aload_n (j := 3) dX8_train_95 rfl rfl (Nat.le_of_ble_eq_true rfl) ?_
                refine b_getp (a := 0) (p := 1) dX8_train_96 fwX8_14 (by decide) rfl (by decide) rfl rfl ?_
                refine b_getp (a := 1) (p := 3) dX8_train_99 fwX8_105 (by decide) rfl (by decide) rfl rfl ?_
                refine a_aload_n (j := 3) dX8_train_102 rfl rfl (Nat.le_of_ble_eq_true rfl) ?_
                refine b_getp (a := 0) (p := 1) dX8_train_103 fwX8_14 (by decide) rfl (by decide) rfl rfl ?_
                refine b_get (a := 1) (z := v2) (t := 0) dX8_train_106 fwX8_102 (by decide) rfl (by decide) rfl rfl e2 ?_
                refine b_aaloadp (a := 3) (p := (8 + 2 * (Int.toNat v2))) (Int.toNat v2) dX8_train_109 (by decide) rfl qa_18 (by omega) (by omega) (tr_a (Or.inl rfl : isWd 1) (show (Int.toNat v2) < 12 by omega)) ?_
                refine a_astore (lv' := [(8, vA (8 + 2 * (Int.toNat v2))), (7, vI 1), (6, vI (Int.tmod e 10)), (5, vI (Int.tdiv e 10)), (0, vA 0), (1, vI k), (2, vI e), (3, vI l), (4, vI t)]) dX8_train_110 (by decide) (Nat.le_of_ble_eq_true rfl) rfl ?_
                refine a_aload (j := 0) dX8_train_112 rfl (Nat.le_of_ble_eq_true rfl) ?_
                refine a_iload_n (j := 5) dX8_train_114 rfl rfl ?_
                refine a_iload (j := 3) dX8_train_115 rfl ?_
                refine a_iload (j := 2) dX8_train_117 rfl ?_
                refine b_callV (d' := d - 1) (mc' := 0) (ms' := 0) (mc1 := 0) (ms1 := 0) (st := []) (b := (8 + 2 * (Int.toNat v2))) [vI k, vI (Int.tdiv e 10), vI (Int.tmod e 10)] dX8_train_119 mwX6_begin lkX8_109 (by have := (tr_w (Or.inl rfl : isWd 1) (show (Int.toNat v2) < 12 by omega)).1; omega) (tr_w (Or.inl rfl : isWd 1) (show (Int.toNat v2) < 12 by omega)).2.1 rc_X6 rfl (Nat.le_of_ble_eq_true rfl) (by omega) rfl rfl (c_X6_begin (f1 := f4) (by omega) (tr_w (Or.inl rfl : isWd 1) (show (Int.toNat v2) < 12 by omega)) r4  ?_)
                show Aj γ mX8_train d 0 0 Post 122 [(8, vA (8 + 2 * (Int.toNat v2))), (7, vI 1), (6, vI (Int.tmod e 10)), (5, vI (Int.tdiv e 10)), (0, vA 0), (1, vI k), (2, vI e), (3, vI l), (4, vI t)] [] (mk (up2 (upR (up2 (up2 (up2 (up2 (up2 h (8 + 2 * (Int.toNat v2)) 0 k) (8 + 2 * (Int.toNat v2)) 1 (Int.tdiv e 10)) (8 + 2 * (Int.toNat v2)) 2 (Int.tmod e 10)) (8 + 2 * (Int.toNat v2)) 5 0) (8 + 2 * (Int.toNat v2)) 6 (-1000000005)) ((8 + 2 * (Int.toNat v2)) + 1) (fillR 0 4 f4)) ((8 + 2 * (Int.toNat v2)) + 1) 0 100) τ)
                refine a_aload (j := 0) dX8_train_122 rfl (Nat.le_of_ble_eq_true rfl) ?_
                refine a_iload_n (j := 7) dX8_train_124 rfl rfl ?_
                refine b_put (a := (8 + 2 * (Int.toNat v2))) (v := vI l) dX8_train_125 pwX8_115 (fun h => nomatch h) (by have := (tr_w (Or.inl rfl : isWd 1) (show (Int.toNat v2) < 12 by omega)).1; omega) (tr_w (Or.inl rfl : isWd 1) (show (Int.toNat v2) < 12 by omega)).2.1 (by decide) (tr_s (tr_w (Or.inl rfl : isWd 1) (show (Int.toNat v2) < 12 by omega)) (by decide)) rfl (fit_int _) ?_
                show Aj γ mX8_train d 0 0 Post 128 [(8, vA (8 + 2 * (Int.toNat v2))), (7, vI 1), (6, vI (Int.tmod e 10)), (5, vI (Int.tdiv e 10)), (0, vA 0), (1, vI k), (2, vI e), (3, vI l), (4, vI t)] [] (mk (up2 (up2 (upR (up2 (up2 (up2 (up2 (up2 h (8 + 2 * (Int.toNat v2)) 0 k) (8 + 2 * (Int.toNat v2)) 1 (Int.tdiv e 10)) (8 + 2 * (Int.toNat v2)) 2 (Int.tmod e 10)) (8 + 2 * (Int.toNat v2)) 5 0) (8 + 2 * (Int.toNat v2)) 6 (-1000000005)) ((8 + 2 * (Int.toNat v2)) + 1) (fillR 0 4 f4)) ((8 + 2 * (Int.toNat v2)) + 1) 0 100) (8 + 2 * (Int.toNat v2)) 3 l) τ)
                refine a_aload (j := 0) dX8_train_128 rfl (Nat.le_of_ble_eq_true rfl) ?_
                refine a_iload (j := 8) dX8_train_130 rfl ?_
                refine b_put (a := (8 + 2 * (Int.toNat v2))) (v := vI t) dX8_train_132 pwX8_118 (fun h => nomatch h) (by have := (tr_w (Or.inl rfl : isWd 1) (show (Int.toNat v2) < 12 by omega)).1; omega) (tr_w (Or.inl rfl : isWd 1) (show (Int.toNat v2) < 12 by omega)).2.1 (by decide) (tr_s (tr_w (Or.inl rfl : isWd 1) (show (Int.toNat v2) < 12 by omega)) (by decide)) rfl (fit_int _) ?_
                show Aj γ mX8_train d 0 0 Post 135 [(8, vA (8 + 2 * (Int.toNat v2))), (7, vI 1), (6, vI (Int.tmod e 10)), (5, vI (Int.tdiv e 10)), (0, vA 0), (1, vI k), (2, vI e), (3, vI l), (4, vI t)] [] (mk (up2 (up2 (up2 (upR (up2 (up2 (up2 (up2 (up2 h (8 + 2 * (Int.toNat v2)) 0 k) (8 + 2 * (Int.toNat v2)) 1 (Int.tdiv e 10)) (8 + 2 * (Int.toNat v2)) 2 (Int.tmod e 10)) (8 + 2 * (Int.toNat v2)) 5 0) (8 + 2 * (Int.toNat v2)) 6 (-1000000005)) ((8 + 2 * (Int.toNat v2)) + 1) (fillR 0 4 f4)) ((8 + 2 * (Int.toNat v2)) + 1) 0 100) (8 + 2 * (Int.toNat v2)) 3 l) (8 + 2 * (Int.toNat v2)) 4 t) τ)
                refine a_aload_n (j := 4) dX8_train_135 rfl rfl (Nat.le_of_ble_eq_true rfl) ?_
                refine b_getp (a := 0) (p := 1) dX8_train_136 fwX8_14 (by decide) rfl (by decide) rfl rfl ?_
                refine a_dup dX8_train_139 (fun h => nomatch h) ?_
                refine b_get (a := 1) (z := v2) (t := 0) dX8_train_140 fwX8_102 (by decide) rfl (by decide) rfl rfl ((up2_ne (by omega)).trans ((up2_ne (by omega)).trans ((up2_ne (by omega)).trans ((upR_ne (by omega)).trans ((up2_ne (by omega)).trans ((up2_ne (by omega)).trans ((up2_ne (by omega)).trans ((up2_ne (by omega)).trans ((up2_ne (by omega)).trans e2))))))))) ?_
                refine a_iconst dX8_train_143 ⟨by decide, by decide⟩ ?_
                refine a_iadd (z := (v2 + 1)) dX8_train_144 (w_ok (by omega) (by omega)) ?_
                refine b_put (a := 1) (v := vI (v2 + 1)) dX8_train_145 pwX8_102 (fun h => nomatch h) (by decide) rfl (by decide) rfl rfl (fit_int _) ?_
                show Aj γ mX8_train d 0 0 Post 148 [(8, vA (8 + 2 * (Int.toNat v2))), (7, vI 1), (6, vI (Int.tmod e 10)), (5, vI (Int.tdiv e 10)), (0, vA 0), (1, vI k), (2, vI e), (3, vI l), (4, vI t)] [] (mk (up2 (up2 (up2 (up2 (upR (up2 (up2 (up2 (up2 (up2 h (8 + 2 * (Int.toNat v2)) 0 k) (8 + 2 * (Int.toNat v2)) 1 (Int.tdiv e 10)) (8 + 2 * (Int.toNat v2)) 2 (Int.tmod e 10)) (8 + 2 * (Int.toNat v2)) 5 0) (8 + 2 * (Int.toNat v2)) 6 (-1000000005)) ((8 + 2 * (Int.toNat v2)) + 1) (fillR 0 4 f4)) ((8 + 2 * (Int.toNat v2)) + 1) 0 100) (8 + 2 * (Int.toNat v2)) 3 l) (8 + 2 * (Int.toNat v2)) 4 t) 1 3 (v2 + 1)) τ)
                refine a_aload_n (j := 4) dX8_train_148 rfl rfl (Nat.le_of_ble_eq_true rfl) ?_
                refine b_callV (d' := d - 1) (mc' := 0) (ms' := 0) (mc1 := 0) (ms1 := 0) (st := []) (b := 0) [] dX8_train_149 mwX8_stampAnew lkX8_81 (by decide) rfl rc_X8 rfl (Nat.le_of_ble_eq_true rfl) (by omega) rfl rfl (c_X8_stampAnew (v1 := v3) (by omega)  ((up2_ne (by omega)).trans ((up2_ne (by omega)).trans ((up2_ne (by omega)).trans ((up2_ne (by omega)).trans ((upR_ne (by omega)).trans ((up2_ne (by omega)).trans ((up2_ne (by omega)).trans ((up2_ne (by omega)).trans ((up2_ne (by omega)).trans ((up2_ne (by omega)).trans e3)))))))))) (show 0 ≤ v3 ∧ v3 ≤ 1000 by omega) ?_)
                show Aj γ mX8_train d 0 0 Post 152 [(8, vA (8 + 2 * (Int.toNat v2))), (7, vI 1), (6, vI (Int.tmod e 10)), (5, vI (Int.tdiv e 10)), (0, vA 0), (1, vI k), (2, vI e), (3, vI l), (4, vI t)] [] (mk (up2 (up2 (up2 (up2 (up2 (up2 (upR (up2 (up2 (up2 (up2 (up2 h (8 + 2 * (Int.toNat v2)) 0 k) (8 + 2 * (Int.toNat v2)) 1 (Int.tdiv e 10)) (8 + 2 * (Int.toNat v2)) 2 (Int.tmod e 10)) (8 + 2 * (Int.toNat v2)) 5 0) (8 + 2 * (Int.toNat v2)) 6 (-1000000005)) ((8 + 2 * (Int.toNat v2)) + 1) (fillR 0 4 f4)) ((8 + 2 * (Int.toNat v2)) + 1) 0 100) (8 + 2 * (Int.toNat v2)) 3 l) (8 + 2 * (Int.toNat v2)) 4 t) 1 3 (v2 + 1)) 0 3 (v3 + 1)) 1 0 (v3 + 1)) τ)
                refine a_aload_n (j := 4) dX8_train_152 rfl rfl (Nat.le_of_ble_eq_true rfl) ?_
                refine b_getp (a := 0) (p := 1) dX8_train_153 fwX8_14 (by decide) rfl (by decide) rfl rfl ?_
                refine b_get (a := 1) (z := (v2 + 1)) (t := 0) dX8_train_156 fwX8_102 (by decide) rfl (by decide) rfl rfl ((up2_ne (by omega)).trans ((up2_ne (by omega)).trans up2_at)) ?_
                refine a_iconst dX8_train_159 ⟨by decide, by decide⟩ ?_
                refine a_isub (z := ((v2 + 1) - 1)) dX8_train_160 (w_ok (by omega) (by omega)) ?_
                exact a_iret dX8_train_161 rfl (k2 t13_1 t25_2 t37_3 c47_4 t63_5 t71_6 c89_7)
              · refine a_ldc (z := (-1000000003)) dX8_train_92 kwX8_77 ⟨by decide, by decide, by decide⟩ ?_
                exact a_iret dX8_train_94 rfl (k3 t13_1 t25_2 t37_3 c47_4 t63_5 t71_6 c89_7)
            · have t71_6 : ¬ (1 ≤ t ∧ t ≤ 600) := t71_6
              show Aj γ mX8_train d 0 0 Post 74 [(7, vI 1), (6, vI (Int.tmod e 10)), (5, vI (Int.tdiv e 10)), (0, vA 0), (1, vI k), (2, vI e), (3, vI l), (4, vI t)] [vI 0] (mk h τ)
              refine a_if_ne (tgt := 80) dX8_train_74 (by decide) (fun c => absurd c (by decide)) (fun _ => ?_)
              refine a_ldc (z := (-1000000001)) dX8_train_77 kwX8_72 ⟨by decide, by decide, by decide⟩ ?_
              exact a_iret dX8_train_79 rfl (k4 t13_1 t25_2 t37_3 c47_4 t63_5 t71_6)
          · have t63_5 : ¬ (0 ≤ l ∧ l ≤ 1439) := t63_5
            show Aj γ mX8_train d 0 0 Post 66 [(7, vI 1), (6, vI (Int.tmod e 10)), (5, vI (Int.tdiv e 10)), (0, vA 0), (1, vI k), (2, vI e), (3, vI l), (4, vI t)] [vI 0] (mk h τ)
            refine a_if_eq (tgt := 77) dX8_train_66 (by decide) (fun _ => ?_) (fun c => absurd c (by decide))
            refine a_ldc (z := (-1000000001)) dX8_train_77 kwX8_72 ⟨by decide, by decide, by decide⟩ ?_
            exact a_iret dX8_train_79 rfl (k5 t13_1 t25_2 t37_3 c47_4 t63_5)
      · have t37_3 : ¬ (0 ≤ (Int.tmod e 10) ∧ (Int.tmod e 10) < v1) := t37_3
        show Aj γ mX8_train d 0 0 Post 40 [(6, vI (Int.tmod e 10)), (5, vI (Int.tdiv e 10)), (0, vA 0), (1, vI k), (2, vI e), (3, vI l), (4, vI t)] [vI 0] (mk h τ)
        refine a_if_eq (tgt := 54) dX8_train_40 (by decide) (fun _ => ?_) (fun c => absurd c (by decide))
        refine a_iconst dX8_train_54 ⟨by decide, by decide⟩ ?_
        refine a_istore (lv' := [(7, vI 0), (6, vI (Int.tmod e 10)), (5, vI (Int.tdiv e 10)), (0, vA 0), (1, vI k), (2, vI e), (3, vI l), (4, vI t)]) dX8_train_55 (by decide) rfl ?_
        refine a_iload (j := 0) dX8_train_57 rfl ?_
        refine a_if_eq (tgt := 77) dX8_train_59 (by decide) (fun _ => ?_) (fun c => absurd c (by decide))
        refine a_ldc (z := (-1000000001)) dX8_train_77 kwX8_72 ⟨by decide, by decide, by decide⟩ ?_
        exact a_iret dX8_train_79 rfl (k6 t13_1 t25_2 t37_3)
    · have t25_2 : ¬ (0 ≤ (Int.tdiv e 10) ∧ (Int.tdiv e 10) < v1) := t25_2
      show Aj γ mX8_train d 0 0 Post 28 [(6, vI (Int.tmod e 10)), (5, vI (Int.tdiv e 10)), (0, vA 0), (1, vI k), (2, vI e), (3, vI l), (4, vI t)] [vI 0] (mk h τ)
      refine a_if_eq (tgt := 54) dX8_train_28 (by decide) (fun _ => ?_) (fun c => absurd c (by decide))
      refine a_iconst dX8_train_54 ⟨by decide, by decide⟩ ?_
      refine a_istore (lv' := [(7, vI 0), (6, vI (Int.tmod e 10)), (5, vI (Int.tdiv e 10)), (0, vA 0), (1, vI k), (2, vI e), (3, vI l), (4, vI t)]) dX8_train_55 (by decide) rfl ?_
      refine a_iload (j := 0) dX8_train_57 rfl ?_
      refine a_if_eq (tgt := 77) dX8_train_59 (by decide) (fun _ => ?_) (fun c => absurd c (by decide))
      refine a_ldc (z := (-1000000001)) dX8_train_77 kwX8_72 ⟨by decide, by decide, by decide⟩ ?_
      exact a_iret dX8_train_79 rfl (k7 t13_1 t25_2)
  · have t13_1 : ¬ (0 ≤ k ∧ k ≤ 5) := t13_1
    show Aj γ mX8_train d 0 0 Post 16 [(6, vI (Int.tmod e 10)), (5, vI (Int.tdiv e 10)), (0, vA 0), (1, vI k), (2, vI e), (3, vI l), (4, vI t)] [vI 0] (mk h τ)
    refine a_if_eq (tgt := 54) dX8_train_16 (by decide) (fun _ => ?_) (fun c => absurd c (by decide))
    refine a_iconst dX8_train_54 ⟨by decide, by decide⟩ ?_
    refine a_istore (lv' := [(7, vI 0), (6, vI (Int.tmod e 10)), (5, vI (Int.tdiv e 10)), (0, vA 0), (1, vI k), (2, vI e), (3, vI l), (4, vI t)]) dX8_train_55 (by decide) rfl ?_
    refine a_iload (j := 0) dX8_train_57 rfl ?_
    refine a_if_eq (tgt := 77) dX8_train_59 (by decide) (fun _ => ?_) (fun c => absurd c (by decide))
    refine a_ldc (z := (-1000000001)) dX8_train_77 kwX8_72 ⟨by decide, by decide, by decide⟩ ?_
    exact a_iret dX8_train_79 rfl (k8 t13_1)
set_option maxHeartbeats 8000000 in
theorem c_X3_append {γ : GT} {d : Nat} {y : Int} {h : Nat → Nat → Int} {τ : List AC} {Post : Option AV → List AC → Prop} (hd : 0 ≤ d) {v1 : Int} (e1 : h 84 1 = v1) (hT : 0 ≤ v1 ∧ v1 ≤ 92) (kQ : Post none (mk (up2 (up2 (up2 (up2 (up2 (up2 (up2 (up2 h 85 (Int.toNat v1) (b8 (shr32 y 24))) 84 1 (v1 + 1)) 85 (Int.toNat (v1 + 1)) (b8 (shr32 y 16))) 84 1 ((v1 + 1) + 1)) 85 (Int.toNat ((v1 + 1) + 1)) (b8 (shr32 y 8))) 84 1 (((v1 + 1) + 1) + 1)) 85 (Int.toNat (((v1 + 1) + 1) + 1)) (b8 (shr32 y 0))) 84 1 ((((v1 + 1) + 1) + 1) + 1)) τ)) : Cj γ mX3_append d 0 0 [vA 84, vI y] (mk h τ) Post := by
  refine c_of (by decide) (Nat.le_of_ble_eq_true rfl) ?_
  show Aj γ mX3_append d 0 0 Post 0 [(0, vA 84), (1, vI y)] [] (mk h τ)
  refine a_bipush dX3_append_0 ⟨by decide, by decide, by decide⟩ ?_
  refine a_istore_n (lv' := [(2, vI 24), (0, vA 84), (1, vI y)]) dX3_append_2 rfl (by decide) rfl ?_
  refine a_iload_n (j := 0) dX3_append_3 rfl rfl ?_
  refine a_if_lt (tgt := 45) dX3_append_4 (by decide) (fun c => absurd c (by decide)) (fun _ => ?_)
  refine a_aload_n (j := 1) dX3_append_7 rfl rfl (Nat.le_of_ble_eq_true rfl) ?_
  refine b_get (a := 84) (z := v1) (t := 0) dX3_append_8 fwX3_19 (by decide) rfl (by decide) rfl rfl e1 ?_
  refine a_bipush dX3_append_11 ⟨by decide, by decide, by decide⟩ ?_
  refine a_icmp_ge (tgt := 45) dX3_append_13 (by decide) (fun c13_1 => absurd c13_1 (by omega)) (fun c13_1 => ?_)
  refine a_aload_n (j := 1) dX3_append_16 rfl rfl (Nat.le_of_ble_eq_true rfl) ?_
  refine b_getp (a := 84) (p := 85) dX3_append_17 fwX3_9 (by decide) rfl (by decide) rfl rfl ?_
  refine a_aload_n (j := 1) dX3_append_20 rfl rfl (Nat.le_of_ble_eq_true rfl) ?_
  refine b_get (a := 84) (z := v1) (t := 0) dX3_append_21 fwX3_19 (by decide) rfl (by decide) rfl rfl e1 ?_
  refine a_iload_n (j := 2) dX3_append_24 rfl rfl ?_
  refine a_iload_n (j := 0) dX3_append_25 rfl rfl ?_
  refine a_ishr (z := (shr32 y 24)) dX3_append_26 rfl ?_
  refine a_i2b (z := (b8 (shr32 y 24))) dX3_append_27 rfl ?_
  refine b_bastore (a := 85) (z := (b8 (shr32 y 24))) (Int.toNat v1) dX3_append_28 (by decide) rfl (by omega) (by omega) (sp_nil rfl _) (nar_b8 _) (in_b8 _) ?_
  refine a_aload_n (j := 1) dX3_append_29 rfl rfl (Nat.le_of_ble_eq_true rfl) ?_
  refine a_dup dX3_append_30 (fun h => nomatch h) ?_
  refine b_get (a := 84) (z := v1) (t := 0) dX3_append_31 fwX3_19 (by decide) rfl (by decide) rfl rfl ((up2_ne (by omega)).trans e1) ?_
  refine a_iconst dX3_append_34 ⟨by decide, by decide⟩ ?_
  refine a_iadd (z := (v1 + 1)) dX3_append_35 (w_ok (by omega) (by omega)) ?_
  refine b_put (a := 84) (v := vI (v1 + 1)) dX3_append_36 pwX3_19 (fun h => nomatch h) (by decide) rfl (by decide) rfl rfl (fit_int _) ?_
  show Aj γ mX3_append d 0 0 Post 39 [(2, vI 24), (0, vA 84), (1, vI y)] [] (mk (up2 (up2 h 85 (Int.toNat v1) (b8 (shr32 y 24))) 84 1 (v1 + 1)) τ)
  refine a_iinc (j := 0) (z' := 16) (lv' := [(2, vI 16), (0, vA 84), (1, vI y)]) dX3_append_39 rfl (w_ok (by omega) (by omega)) (by decide) rfl ?_
  refine a_goto (tgt := 3) dX3_append_42 (by decide) ?_
  refine a_iload_n (j := 0) dX3_append_3 rfl rfl ?_
  refine a_if_lt (tgt := 45) dX3_append_4 (by decide) (fun c => absurd c (by decide)) (fun _ => ?_)
  refine a_aload_n (j := 1) dX3_append_7 rfl rfl (Nat.le_of_ble_eq_true rfl) ?_
  refine b_get (a := 84) (z := (v1 + 1)) (t := 0) dX3_append_8 fwX3_19 (by decide) rfl (by decide) rfl rfl up2_at ?_
  refine a_bipush dX3_append_11 ⟨by decide, by decide, by decide⟩ ?_
  refine a_icmp_ge (tgt := 45) dX3_append_13 (by decide) (fun c13_2 => absurd c13_2 (by omega)) (fun c13_2 => ?_)
  refine a_aload_n (j := 1) dX3_append_16 rfl rfl (Nat.le_of_ble_eq_true rfl) ?_
  refine b_getp (a := 84) (p := 85) dX3_append_17 fwX3_9 (by decide) rfl (by decide) rfl rfl ?_
  refine a_aload_n (j := 1) dX3_append_20 rfl rfl (Nat.le_of_ble_eq_true rfl) ?_
  refine b_get (a := 84) (z := (v1 + 1)) (t := 0) dX3_append_21 fwX3_19 (by decide) rfl (by decide) rfl rfl up2_at ?_
  refine a_iload_n (j := 2) dX3_append_24 rfl rfl ?_
  refine a_iload_n (j := 0) dX3_append_25 rfl rfl ?_
  refine a_ishr (z := (shr32 y 16)) dX3_append_26 rfl ?_
  refine a_i2b (z := (b8 (shr32 y 16))) dX3_append_27 rfl ?_
  refine b_bastore (a := 85) (z := (b8 (shr32 y 16))) (Int.toNat (v1 + 1)) dX3_append_28 (by decide) rfl (by omega) (by omega) (sp_nil rfl _) (nar_b8 _) (in_b8 _) ?_
  refine a_aload_n (j := 1) dX3_append_29 rfl rfl (Nat.le_of_ble_eq_true rfl) ?_
  refine a_dup dX3_append_30 (fun h => nomatch h) ?_
  refine b_get (a := 84) (z := (v1 + 1)) (t := 0) dX3_append_31 fwX3_19 (by decide) rfl (by decide) rfl rfl ((up2_ne (by omega)).trans up2_at) ?_
  refine a_iconst dX3_append_34 ⟨by decide, by decide⟩ ?_
  refine a_iadd (z := ((v1 + 1) + 1)) dX3_append_35 (w_ok (by omega) (by omega)) ?_
  refine b_put (a := 84) (v := vI ((v1 + 1) + 1)) dX3_append_36 pwX3_19 (fun h => nomatch h) (by decide) rfl (by decide) rfl rfl (fit_int _) ?_
  show Aj γ mX3_append d 0 0 Post 39 [(2, vI 16), (0, vA 84), (1, vI y)] [] (mk (up2 (up2 (up2 (up2 h 85 (Int.toNat v1) (b8 (shr32 y 24))) 84 1 (v1 + 1)) 85 (Int.toNat (v1 + 1)) (b8 (shr32 y 16))) 84 1 ((v1 + 1) + 1)) τ)
  refine a_iinc (j := 0) (z' := 8) (lv' := [(2, vI 8), (0, vA 84), (1, vI y)]) dX3_append_39 rfl (w_ok (by omega) (by omega)) (by decide) rfl ?_
  refine a_goto (tgt := 3) dX3_append_42 (by decide) ?_
  refine a_iload_n (j := 0) dX3_append_3 rfl rfl ?_
  refine a_if_lt (tgt := 45) dX3_append_4 (by decide) (fun c => absurd c (by decide)) (fun _ => ?_)
  refine a_aload_n (j := 1) dX3_append_7 rfl rfl (Nat.le_of_ble_eq_true rfl) ?_
  refine b_get (a := 84) (z := ((v1 + 1) + 1)) (t := 0) dX3_append_8 fwX3_19 (by decide) rfl (by decide) rfl rfl up2_at ?_
  refine a_bipush dX3_append_11 ⟨by decide, by decide, by decide⟩ ?_
  refine a_icmp_ge (tgt := 45) dX3_append_13 (by decide) (fun c13_3 => absurd c13_3 (by omega)) (fun c13_3 => ?_)
  refine a_aload_n (j := 1) dX3_append_16 rfl rfl (Nat.le_of_ble_eq_true rfl) ?_
  refine b_getp (a := 84) (p := 85) dX3_append_17 fwX3_9 (by decide) rfl (by decide) rfl rfl ?_
  refine a_aload_n (j := 1) dX3_append_20 rfl rfl (Nat.le_of_ble_eq_true rfl) ?_
  refine b_get (a := 84) (z := ((v1 + 1) + 1)) (t := 0) dX3_append_21 fwX3_19 (by decide) rfl (by decide) rfl rfl up2_at ?_
  refine a_iload_n (j := 2) dX3_append_24 rfl rfl ?_
  refine a_iload_n (j := 0) dX3_append_25 rfl rfl ?_
  refine a_ishr (z := (shr32 y 8)) dX3_append_26 rfl ?_
  refine a_i2b (z := (b8 (shr32 y 8))) dX3_append_27 rfl ?_
  refine b_bastore (a := 85) (z := (b8 (shr32 y 8))) (Int.toNat ((v1 + 1) + 1)) dX3_append_28 (by decide) rfl (by omega) (by omega) (sp_nil rfl _) (nar_b8 _) (in_b8 _) ?_
  refine a_aload_n (j := 1) dX3_append_29 rfl rfl (Nat.le_of_ble_eq_true rfl) ?_
  refine a_dup dX3_append_30 (fun h => nomatch h) ?_
  refine b_get (a := 84) (z := ((v1 + 1) + 1)) (t := 0) dX3_append_31 fwX3_19 (by decide) rfl (by decide) rfl rfl ((up2_ne (by omega)).trans up2_at) ?_
  refine a_iconst dX3_append_34 ⟨by decide, by decide⟩ ?_
  refine a_iadd (z := (((v1 + 1) + 1) + 1)) dX3_append_35 (w_ok (by omega) (by omega)) ?_
  refine b_put (a := 84) (v := vI (((v1 + 1) + 1) + 1)) dX3_append_36 pwX3_19 (fun h => nomatch h) (by decide) rfl (by decide) rfl rfl (fit_int _) ?_
  show Aj γ mX3_append d 0 0 Post 39 [(2, vI 8), (0, vA 84), (1, vI y)] [] (mk (up2 (up2 (up2 (up2 (up2 (up2 h 85 (Int.toNat v1) (b8 (shr32 y 24))) 84 1 (v1 + 1)) 85 (Int.toNat (v1 + 1)) (b8 (shr32 y 16))) 84 1 ((v1 + 1) + 1)) 85 (Int.toNat ((v1 + 1) + 1)) (b8 (shr32 y 8))) 84 1 (((v1 + 1) + 1) + 1)) τ)
  refine a_iinc (j := 0) (z' := 0) (lv' := [(2, vI 0), (0, vA 84), (1, vI y)]) dX3_append_39 rfl (w_ok (by omega) (by omega)) (by decide) rfl ?_
  refine a_goto (tgt := 3) dX3_append_42 (by decide) ?_
  refine a_iload_n (j := 0) dX3_append_3 rfl rfl ?_
  refine a_if_lt (tgt := 45) dX3_append_4 (by decide) (fun c => absurd c (by decide)) (fun _ => ?_)
  refine a_aload_n (j := 1) dX3_append_7 rfl rfl (Nat.le_of_ble_eq_true rfl) ?_
  refine b_get (a := 84) (z := (((v1 + 1) + 1) + 1)) (t := 0) dX3_append_8 fwX3_19 (by decide) rfl (by decide) rfl rfl up2_at ?_
  refine a_bipush dX3_append_11 ⟨by decide, by decide, by decide⟩ ?_
  refine a_icmp_ge (tgt := 45) dX3_append_13 (by decide) (fun c13_4 => absurd c13_4 (by omega)) (fun c13_4 => ?_)
  refine a_aload_n (j := 1) dX3_append_16 rfl rfl (Nat.le_of_ble_eq_true rfl) ?_
  refine b_getp (a := 84) (p := 85) dX3_append_17 fwX3_9 (by decide) rfl (by decide) rfl rfl ?_
  refine a_aload_n (j := 1) dX3_append_20 rfl rfl (Nat.le_of_ble_eq_true rfl) ?_
  refine b_get (a := 84) (z := (((v1 + 1) + 1) + 1)) (t := 0) dX3_append_21 fwX3_19 (by decide) rfl (by decide) rfl rfl up2_at ?_
  refine a_iload_n (j := 2) dX3_append_24 rfl rfl ?_
  refine a_iload_n (j := 0) dX3_append_25 rfl rfl ?_
  refine a_ishr (z := (shr32 y 0)) dX3_append_26 rfl ?_
  refine a_i2b (z := (b8 (shr32 y 0))) dX3_append_27 rfl ?_
  refine b_bastore (a := 85) (z := (b8 (shr32 y 0))) (Int.toNat (((v1 + 1) + 1) + 1)) dX3_append_28 (by decide) rfl (by omega) (by omega) (sp_nil rfl _) (nar_b8 _) (in_b8 _) ?_
  refine a_aload_n (j := 1) dX3_append_29 rfl rfl (Nat.le_of_ble_eq_true rfl) ?_
  refine a_dup dX3_append_30 (fun h => nomatch h) ?_
  refine b_get (a := 84) (z := (((v1 + 1) + 1) + 1)) (t := 0) dX3_append_31 fwX3_19 (by decide) rfl (by decide) rfl rfl ((up2_ne (by omega)).trans up2_at) ?_
  refine a_iconst dX3_append_34 ⟨by decide, by decide⟩ ?_
  refine a_iadd (z := ((((v1 + 1) + 1) + 1) + 1)) dX3_append_35 (w_ok (by omega) (by omega)) ?_
  refine b_put (a := 84) (v := vI ((((v1 + 1) + 1) + 1) + 1)) dX3_append_36 pwX3_19 (fun h => nomatch h) (by decide) rfl (by decide) rfl rfl (fit_int _) ?_
  show Aj γ mX3_append d 0 0 Post 39 [(2, vI 0), (0, vA 84), (1, vI y)] [] (mk (up2 (up2 (up2 (up2 (up2 (up2 (up2 (up2 h 85 (Int.toNat v1) (b8 (shr32 y 24))) 84 1 (v1 + 1)) 85 (Int.toNat (v1 + 1)) (b8 (shr32 y 16))) 84 1 ((v1 + 1) + 1)) 85 (Int.toNat ((v1 + 1) + 1)) (b8 (shr32 y 8))) 84 1 (((v1 + 1) + 1) + 1)) 85 (Int.toNat (((v1 + 1) + 1) + 1)) (b8 (shr32 y 0))) 84 1 ((((v1 + 1) + 1) + 1) + 1)) τ)
  refine a_iinc (j := 0) (z' := (-8)) (lv' := [(2, vI (-8)), (0, vA 84), (1, vI y)]) dX3_append_39 rfl (w_ok (by omega) (by omega)) (by decide) rfl ?_
  refine a_goto (tgt := 3) dX3_append_42 (by decide) ?_
  refine a_iload_n (j := 0) dX3_append_3 rfl rfl ?_
  refine a_if_lt (tgt := 45) dX3_append_4 (by decide) (fun _ => ?_) (fun c => absurd c (by decide))
  exact a_vret dX3_append_45 rfl kQ
set_option maxHeartbeats 8000000 in
theorem c_X8_feed {γ : GT} {d : Nat} {a b c : Int} {h : Nat → Nat → Int} {τ : List AC} {Post : Option AV → List AC → Prop} (hd : 1 ≤ d) {v1 : Int} (e1 : h 84 1 = v1) (hT : 0 ≤ v1 ∧ v1 ≤ 96) (k1 : ((v1 + 12) ≤ 96) → Post (some (vI ((((((((((((v1 + 1) + 1) + 1) + 1) + 1) + 1) + 1) + 1) + 1) + 1) + 1) + 1))) (mk (up2 (up2 (up2 (up2 (up2 (up2 (up2 (up2 (up2 (up2 (up2 (up2 (up2 (up2 (up2 (up2 (up2 (up2 (up2 (up2 (up2 (up2 (up2 (up2 h 85 (Int.toNat v1) (b8 (shr32 a 24))) 84 1 (v1 + 1)) 85 (Int.toNat (v1 + 1)) (b8 (shr32 a 16))) 84 1 ((v1 + 1) + 1)) 85 (Int.toNat ((v1 + 1) + 1)) (b8 (shr32 a 8))) 84 1 (((v1 + 1) + 1) + 1)) 85 (Int.toNat (((v1 + 1) + 1) + 1)) (b8 (shr32 a 0))) 84 1 ((((v1 + 1) + 1) + 1) + 1)) 85 (Int.toNat ((((v1 + 1) + 1) + 1) + 1)) (b8 (shr32 b 24))) 84 1 (((((v1 + 1) + 1) + 1) + 1) + 1)) 85 (Int.toNat (((((v1 + 1) + 1) + 1) + 1) + 1)) (b8 (shr32 b 16))) 84 1 ((((((v1 + 1) + 1) + 1) + 1) + 1) + 1)) 85 (Int.toNat ((((((v1 + 1) + 1) + 1) + 1) + 1) + 1)) (b8 (shr32 b 8))) 84 1 (((((((v1 + 1) + 1) + 1) + 1) + 1) + 1) + 1)) 85 (Int.toNat (((((((v1 + 1) + 1) + 1) + 1) + 1) + 1) + 1)) (b8 (shr32 b 0))) 84 1 ((((((((v1 + 1) + 1) + 1) + 1) + 1) + 1) + 1) + 1)) 85 (Int.toNat ((((((((v1 + 1) + 1) + 1) + 1) + 1) + 1) + 1) + 1)) (b8 (shr32 c 24))) 84 1 (((((((((v1 + 1) + 1) + 1) + 1) + 1) + 1) + 1) + 1) + 1)) 85 (Int.toNat (((((((((v1 + 1) + 1) + 1) + 1) + 1) + 1) + 1) + 1) + 1)) (b8 (shr32 c 16))) 84 1 ((((((((((v1 + 1) + 1) + 1) + 1) + 1) + 1) + 1) + 1) + 1) + 1)) 85 (Int.toNat ((((((((((v1 + 1) + 1) + 1) + 1) + 1) + 1) + 1) + 1) + 1) + 1)) (b8 (shr32 c 8))) 84 1 (((((((((((v1 + 1) + 1) + 1) + 1) + 1) + 1) + 1) + 1) + 1) + 1) + 1)) 85 (Int.toNat (((((((((((v1 + 1) + 1) + 1) + 1) + 1) + 1) + 1) + 1) + 1) + 1) + 1)) (b8 (shr32 c 0))) 84 1 ((((((((((((v1 + 1) + 1) + 1) + 1) + 1) + 1) + 1) + 1) + 1) + 1) + 1) + 1)) τ)) (k2 : (¬ (v1 + 12) ≤ 96) → Post (some (vI (-1000000003))) (mk h τ)) : Cj γ mX8_feed d 0 0 [vA 0, vI a, vI b, vI c] (mk h τ) Post := by
  refine c_of (by decide) (Nat.le_of_ble_eq_true rfl) ?_
  show Aj γ mX8_feed d 0 0 Post 0 [(0, vA 0), (1, vI a), (2, vI b), (3, vI c)] [] (mk h τ)
  refine a_aload_n (j := 0) dX8_feed_0 rfl rfl (Nat.le_of_ble_eq_true rfl) ?_
  refine b_getp (a := 0) (p := 84) dX8_feed_1 fwX8_46 (by decide) rfl (by decide) rfl rfl ?_
  refine b_get (a := 84) (z := v1) (t := 0) dX8_feed_4 fwX8_219 (by decide) rfl (by decide) rfl rfl e1 ?_
  refine a_bipush dX8_feed_7 ⟨by decide, by decide, by decide⟩ ?_
  refine a_iadd (z := (v1 + 12)) dX8_feed_9 (w_ok (by omega) (by omega)) ?_
  refine a_bipush dX8_feed_10 ⟨by decide, by decide, by decide⟩ ?_
  refine a_icmp_le (tgt := 18) dX8_feed_12 (by decide) (fun c12_1 => ?_) (fun c12_1 => ?_)
  · refine a_aload_n (j := 0) dX8_feed_18 rfl rfl (Nat.le_of_ble_eq_true rfl) ?_
    refine b_getp (a := 0) (p := 84) dX8_feed_19 fwX8_46 (by decide) rfl (by decide) rfl rfl ?_
    refine a_iload_n (j := 1) dX8_feed_22 rfl rfl ?_
    refine b_callV (d' := d - 1) (mc' := 0) (ms' := 0) (mc1 := 0) (ms1 := 0) (st := []) (b := 84) [vI a] dX8_feed_23 mwX3_append lkX8_222 (by decide) rfl rc_X3 rfl (Nat.le_of_ble_eq_true rfl) (by omega) rfl rfl (c_X3_append (v1 := v1) (by omega)  e1 (show 0 ≤ v1 ∧ v1 ≤ 92 by omega) ?_)
    show Aj γ mX8_feed d 0 0 Post 26 [(0, vA 0), (1, vI a), (2, vI b), (3, vI c)] [] (mk (up2 (up2 (up2 (up2 (up2 (up2 (up2 (up2 h 85 (Int.toNat v1) (b8 (shr32 a 24))) 84 1 (v1 + 1)) 85 (Int.toNat (v1 + 1)) (b8 (shr32 a 16))) 84 1 ((v1 + 1) + 1)) 85 (Int.toNat ((v1 + 1) + 1)) (b8 (shr32 a 8))) 84 1 (((v1 + 1) + 1) + 1)) 85 (Int.toNat (((v1 + 1) + 1) + 1)) (b8 (shr32 a 0))) 84 1 ((((v1 + 1) + 1) + 1) + 1)) τ)
    refine a_aload_n (j := 0) dX8_feed_26 rfl rfl (Nat.le_of_ble_eq_true rfl) ?_
    refine b_getp (a := 0) (p := 84) dX8_feed_27 fwX8_46 (by decide) rfl (by decide) rfl rfl ?_
    refine a_iload_n (j := 2) dX8_feed_30 rfl rfl ?_
    refine b_callV (d' := d - 1) (mc' := 0) (ms' := 0) (mc1 := 0) (ms1 := 0) (st := []) (b := 84) [vI b] dX8_feed_31 mwX3_append lkX8_222 (by decide) rfl rc_X3 rfl (Nat.le_of_ble_eq_true rfl) (by omega) rfl rfl (c_X3_append (v1 := ((((v1 + 1) + 1) + 1) + 1)) (by omega)  up2_at (show 0 ≤ ((((v1 + 1) + 1) + 1) + 1) ∧ ((((v1 + 1) + 1) + 1) + 1) ≤ 92 by omega) ?_)
    show Aj γ mX8_feed d 0 0 Post 34 [(0, vA 0), (1, vI a), (2, vI b), (3, vI c)] [] (mk (up2 (up2 (up2 (up2 (up2 (up2 (up2 (up2 (up2 (up2 (up2 (up2 (up2 (up2 (up2 (up2 h 85 (Int.toNat v1) (b8 (shr32 a 24))) 84 1 (v1 + 1)) 85 (Int.toNat (v1 + 1)) (b8 (shr32 a 16))) 84 1 ((v1 + 1) + 1)) 85 (Int.toNat ((v1 + 1) + 1)) (b8 (shr32 a 8))) 84 1 (((v1 + 1) + 1) + 1)) 85 (Int.toNat (((v1 + 1) + 1) + 1)) (b8 (shr32 a 0))) 84 1 ((((v1 + 1) + 1) + 1) + 1)) 85 (Int.toNat ((((v1 + 1) + 1) + 1) + 1)) (b8 (shr32 b 24))) 84 1 (((((v1 + 1) + 1) + 1) + 1) + 1)) 85 (Int.toNat (((((v1 + 1) + 1) + 1) + 1) + 1)) (b8 (shr32 b 16))) 84 1 ((((((v1 + 1) + 1) + 1) + 1) + 1) + 1)) 85 (Int.toNat ((((((v1 + 1) + 1) + 1) + 1) + 1) + 1)) (b8 (shr32 b 8))) 84 1 (((((((v1 + 1) + 1) + 1) + 1) + 1) + 1) + 1)) 85 (Int.toNat (((((((v1 + 1) + 1) + 1) + 1) + 1) + 1) + 1)) (b8 (shr32 b 0))) 84 1 ((((((((v1 + 1) + 1) + 1) + 1) + 1) + 1) + 1) + 1)) τ)
    refine a_aload_n (j := 0) dX8_feed_34 rfl rfl (Nat.le_of_ble_eq_true rfl) ?_
    refine b_getp (a := 0) (p := 84) dX8_feed_35 fwX8_46 (by decide) rfl (by decide) rfl rfl ?_
    refine a_iload_n (j := 3) dX8_feed_38 rfl rfl ?_
    refine b_callV (d' := d - 1) (mc' := 0) (ms' := 0) (mc1 := 0) (ms1 := 0) (st := []) (b := 84) [vI c] dX8_feed_39 mwX3_append lkX8_222 (by decide) rfl rc_X3 rfl (Nat.le_of_ble_eq_true rfl) (by omega) rfl rfl (c_X3_append (v1 := ((((((((v1 + 1) + 1) + 1) + 1) + 1) + 1) + 1) + 1)) (by omega)  up2_at (show 0 ≤ ((((((((v1 + 1) + 1) + 1) + 1) + 1) + 1) + 1) + 1) ∧ ((((((((v1 + 1) + 1) + 1) + 1) + 1) + 1) + 1) + 1) ≤ 92 by omega) ?_)
    show Aj γ mX8_feed d 0 0 Post 42 [(0, vA 0), (1, vI a), (2, vI b), (3, vI c)] [] (mk (up2 (up2 (up2 (up2 (up2 (up2 (up2 (up2 (up2 (up2 (up2 (up2 (up2 (up2 (up2 (up2 (up2 (up2 (up2 (up2 (up2 (up2 (up2 (up2 h 85 (Int.toNat v1) (b8 (shr32 a 24))) 84 1 (v1 + 1)) 85 (Int.toNat (v1 + 1)) (b8 (shr32 a 16))) 84 1 ((v1 + 1) + 1)) 85 (Int.toNat ((v1 + 1) + 1)) (b8 (shr32 a 8))) 84 1 (((v1 + 1) + 1) + 1)) 85 (Int.toNat (((v1 + 1) + 1) + 1)) (b8 (shr32 a 0))) 84 1 ((((v1 + 1) + 1) + 1) + 1)) 85 (Int.toNat ((((v1 + 1) + 1) + 1) + 1)) (b8 (shr32 b 24))) 84 1 (((((v1 + 1) + 1) + 1) + 1) + 1)) 85 (Int.toNat (((((v1 + 1) + 1) + 1) + 1) + 1)) (b8 (shr32 b 16))) 84 1 ((((((v1 + 1) + 1) + 1) + 1) + 1) + 1)) 85 (Int.toNat ((((((v1 + 1) + 1) + 1) + 1) + 1) + 1)) (b8 (shr32 b 8))) 84 1 (((((((v1 + 1) + 1) + 1) + 1) + 1) + 1) + 1)) 85 (Int.toNat (((((((v1 + 1) + 1) + 1) + 1) + 1) + 1) + 1)) (b8 (shr32 b 0))) 84 1 ((((((((v1 + 1) + 1) + 1) + 1) + 1) + 1) + 1) + 1)) 85 (Int.toNat ((((((((v1 + 1) + 1) + 1) + 1) + 1) + 1) + 1) + 1)) (b8 (shr32 c 24))) 84 1 (((((((((v1 + 1) + 1) + 1) + 1) + 1) + 1) + 1) + 1) + 1)) 85 (Int.toNat (((((((((v1 + 1) + 1) + 1) + 1) + 1) + 1) + 1) + 1) + 1)) (b8 (shr32 c 16))) 84 1 ((((((((((v1 + 1) + 1) + 1) + 1) + 1) + 1) + 1) + 1) + 1) + 1)) 85 (Int.toNat ((((((((((v1 + 1) + 1) + 1) + 1) + 1) + 1) + 1) + 1) + 1) + 1)) (b8 (shr32 c 8))) 84 1 (((((((((((v1 + 1) + 1) + 1) + 1) + 1) + 1) + 1) + 1) + 1) + 1) + 1)) 85 (Int.toNat (((((((((((v1 + 1) + 1) + 1) + 1) + 1) + 1) + 1) + 1) + 1) + 1) + 1)) (b8 (shr32 c 0))) 84 1 ((((((((((((v1 + 1) + 1) + 1) + 1) + 1) + 1) + 1) + 1) + 1) + 1) + 1) + 1)) τ)
    refine a_aload_n (j := 0) dX8_feed_42 rfl rfl (Nat.le_of_ble_eq_true rfl) ?_
    refine b_getp (a := 0) (p := 84) dX8_feed_43 fwX8_46 (by decide) rfl (by decide) rfl rfl ?_
    refine b_get (a := 84) (z := ((((((((((((v1 + 1) + 1) + 1) + 1) + 1) + 1) + 1) + 1) + 1) + 1) + 1) + 1)) (t := 0) dX8_feed_46 fwX8_219 (by decide) rfl (by decide) rfl rfl up2_at ?_
    exact a_iret dX8_feed_49 rfl (k1 c12_1)
  · refine a_ldc (z := (-1000000003)) dX8_feed_15 kwX8_77 ⟨by decide, by decide, by decide⟩ ?_
    exact a_iret dX8_feed_17 rfl (k2 c12_1)
set_option maxHeartbeats 8000000 in
theorem c_X8_lay {γ : GT} {d : Nat} {s q k : Int} {h : Nat → Nat → Int} {τ : List AC} {Post : Option AV → List AC → Prop} (hd : 3 ≤ d) {v1 : Int} (e1 : h 1 3 = v1) {v2 : Int} (e2 : h (98 + 5 * (Int.toNat s)) 0 = v2) {v3 : Int} (e3 : h (90 + 2 * (Int.toNat k)) 0 = v3) {v4 : Int} (e4 : h (90 + 2 * (Int.toNat k)) 1 = v4) {f5 : Nat → Int} (r5 : h ((90 + 2 * (Int.toNat k)) + 1) = f5) {f6 : Nat → Int} (r6 : h (((98 + 5 * (Int.toNat s)) + 3) + 1) = f6) {v7 : Int} (e7 : h (8 + 2 * (Int.toNat k)) 0 = v7) {v8 : Int} (e8 : h (8 + 2 * (Int.toNat k)) 1 = v8) {v9 : Int} (e9 : h (8 + 2 * (Int.toNat k)) 2 = v9) {v10 : Int} (e10 : h (8 + 2 * (Int.toNat k)) 3 = v10) {v11 : Int} (e11 : h (8 + 2 * (Int.toNat k)) 4 = v11) {v12 : Int} (e12 : h (8 + 2 * (Int.toNat k)) 5 = v12) {v13 : Int} (e13 : h (8 + 2 * (Int.toNat k)) 6 = v13) {f14 : Nat → Int} (r14 : h ((8 + 2 * (Int.toNat k)) + 1) = f14) {f15 : Nat → Int} (r15 : h (((98 + 5 * (Int.toNat s)) + 1) + 1) = f15) (hN : 0 ≤ v1 ∧ v1 ≤ 12) (k1 : (0 ≤ s ∧ s ≤ 4) → (0 ≤ q ∧ q ≤ 3) → (¬ q = 1) → (¬ q = 2) → (¬ q = 2) → (¬ q = 1) → (¬ q = 2) → Post (some (vI v2)) (mk (up2 (up2 h (98 + 5 * (Int.toNat s)) 0 q) (98 + 5 * (Int.toNat s)) 1 k) τ)) (k2 : (0 ≤ s ∧ s ≤ 4) → (0 ≤ q ∧ q ≤ 3) → (¬ q = 1) → (q = 2) → (0 ≤ k ∧ k ≤ 3) → (q = 2) → (¬ v3 = (-1)) → (¬ q = 1) → (q = 2) → Post (some (vI v2)) (mk (upR (up2 (up2 (up2 h (98 + 5 * (Int.toNat s)) 0 q) ((98 + 5 * (Int.toNat s)) + 3) 0 v3) ((98 + 5 * (Int.toNat s)) + 3) 1 v4) (((98 + 5 * (Int.toNat s)) + 3) + 1) (cpy f5 f6 0 0 24)) τ)) (k3 : (0 ≤ s ∧ s ≤ 4) → (0 ≤ q ∧ q ≤ 3) → (¬ q = 1) → (q = 2) → (0 ≤ k ∧ k ≤ 3) → (q = 2) → (v3 = (-1)) → Post (some (vI (-1000000011))) (mk h τ)) (k4 : (0 ≤ s ∧ s ≤ 4) → (0 ≤ q ∧ q ≤ 3) → (¬ q = 1) → (q = 2) → (¬ (0 ≤ k ∧ k ≤ 3)) → Post (some (vI (-1000000001))) (mk h τ)) (k5 : (0 ≤ s ∧ s ≤ 4) → (0 ≤ q ∧ q ≤ 3) → (q = 1) → (0 ≤ k ∧ k < v1) → (¬ q = 2) → (¬ q = 2) → (q = 1) → Post (some (vI v2)) (mk (upR (up2 (up2 (up2 (up2 (up2 (up2 (up2 (up2 h (98 + 5 * (Int.toNat s)) 0 q) ((98 + 5 * (Int.toNat s)) + 1) 0 v7) ((98 + 5 * (Int.toNat s)) + 1) 1 v8) ((98 + 5 * (Int.toNat s)) + 1) 2 v9) ((98 + 5 * (Int.toNat s)) + 1) 3 v10) ((98 + 5 * (Int.toNat s)) + 1) 4 v11) ((98 + 5 * (Int.toNat s)) + 1) 5 v12) ((98 + 5 * (Int.toNat s)) + 1) 6 v13) (((98 + 5 * (Int.toNat s)) + 1) + 1) (cpy f14 f15 0 0 4)) τ)) (k6 : (0 ≤ s ∧ s ≤ 4) → (0 ≤ q ∧ q ≤ 3) → (q = 1) → (¬ (0 ≤ k ∧ k < v1)) → Post (some (vI (-1000000001))) (mk h τ)) (k7 : (0 ≤ s ∧ s ≤ 4) → (¬ (0 ≤ q ∧ q ≤ 3)) → Post (some (vI (-1000000001))) (mk h τ)) (k8 : (¬ (0 ≤ s ∧ s ≤ 4)) → Post (some (vI (-1000000001))) (mk h τ)) : Cj γ mX8_lay d 0 0 [vA 0, vI s, vI q, vI k] (mk h τ) Post := by
  refine c_of (by decide) (Nat.le_of_ble_eq_true rfl) ?_
  show Aj γ mX8_lay d 0 0 Post 0 [(0, vA 0), (1, vI s), (2, vI q), (3, vI k)] [] (mk h τ)
  refine a_iload_n (j := 1) dX8_lay_0 rfl rfl ?_
  refine a_callS (d' := d - 1) (mc' := 0) (ms' := 0) (mc1 := 0) (ms1 := 0) (st := []) [vI s] dX8_lay_1 mwX8_isSlot lkX8_296 rfl (Nat.le_of_ble_eq_true rfl) (by omega) rfl rfl (c_X8_isSlot  (by omega)    (fun t1_1 => ?_) (fun t1_1 => ?_))
  · have t1_1 : 0 ≤ s ∧ s ≤ 4 := t1_1
    show Aj γ mX8_lay d 0 0 Post 4 [(0, vA 0), (1, vI s), (2, vI q), (3, vI k)] [vI 1] (mk h τ)
    refine a_if_eq (tgt := 16) dX8_lay_4 (by decide) (fun c => absurd c (by decide)) (fun _ => ?_)
    refine a_iload_n (j := 2) dX8_lay_7 rfl rfl ?_
    refine a_iconst dX8_lay_8 ⟨by decide, by decide⟩ ?_
    refine a_iconst dX8_lay_9 ⟨by decide, by decide⟩ ?_
    refine a_callS (d' := d - 1) (mc' := 0) (ms' := 0) (mc1 := 0) (ms1 := 0) (st := []) [vI q, vI 0, vI 3] dX8_lay_10 mwX8_within lkX8_68 rfl (Nat.le_of_ble_eq_true rfl) (by omega) rfl rfl (c_X8_within  (by omega)    (fun t10_2 => ?_) (fun t10_2 => ?_))
    · have t10_2 : 0 ≤ q ∧ q ≤ 3 := t10_2
      show Aj γ mX8_lay d 0 0 Post 13 [(0, vA 0), (1, vI s), (2, vI q), (3, vI k)] [vI 1] (mk h τ)
      refine a_if_ne (tgt := 19) dX8_lay_13 (by decide) (fun _ => ?_) (fun c => absurd c (by decide))
      refine a_iload_n (j := 2) dX8_lay_19 rfl rfl ?_
      refine a_iconst dX8_lay_20 ⟨by decide, by decide⟩ ?_
      refine a_icmp_ne (tgt := 35) dX8_lay_21 (by decide) (fun c21_3 => ?_) (fun c21_3 => ?_)
      · refine a_iload_n (j := 2) dX8_lay_35 rfl rfl ?_
        refine a_iconst dX8_lay_36 ⟨by decide, by decide⟩ ?_
        refine a_icmp_ne (tgt := 50) dX8_lay_37 (by decide) (fun c37_4 => ?_) (fun c37_4 => ?_)
        · refine a_iload_n (j := 2) dX8_lay_50 rfl rfl ?_
          refine a_iconst dX8_lay_51 ⟨by decide, by decide⟩ ?_
          refine a_icmp_ne (tgt := 72) dX8_lay_52 (by decide) (fun c52_5 => ?_) (fun c52_5 => absurd c52_5 (by omega))
          refine a_aload_n (j := 0) dX8_lay_72 rfl rfl (Nat.le_of_ble_eq_true rfl) ?_
          refine b_getp (a := 0) (p := 88) dX8_lay_73 fwX8_58 (by decide) rfl (by decide) rfl rfl ?_
          refine a_iload_n (j := 1) dX8_lay_76 rfl rfl ?_
          refine b_aaloadp (a := 88) (p := (98 + 5 * (Int.toNat s))) (Int.toNat s) dX8_lay_77 (by decide) rfl qa_16 (by omega) (by omega) (sl_i (show (Int.toNat s) < 5 by omega)).1 ?_
          refine a_astore (lv' := [(4, vA (98 + 5 * (Int.toNat s))), (0, vA 0), (1, vI s), (2, vI q), (3, vI k)]) dX8_lay_78 (by decide) (Nat.le_of_ble_eq_true rfl) rfl ?_
          refine a_aload (j := 0) dX8_lay_80 rfl (Nat.le_of_ble_eq_true rfl) ?_
          refine b_get (a := (98 + 5 * (Int.toNat s))) (z := v2) (t := 0) dX8_lay_82 fwX8_299 (by have := (sl_i (show (Int.toNat s) < 5 by omega)).2.2.1; omega) (sl_i (show (Int.toNat s) < 5 by omega)).2.1 (by decide) (sl_i (show (Int.toNat s) < 5 by omega)).2.2.2.1 rfl e2 ?_
          refine a_istore (lv' := [(5, vI v2), (4, vA (98 + 5 * (Int.toNat s))), (0, vA 0), (1, vI s), (2, vI q), (3, vI k)]) dX8_lay_85 (by decide) rfl ?_
          refine a_aload (j := 1) dX8_lay_87 rfl (Nat.le_of_ble_eq_true rfl) ?_
          refine a_iload_n (j := 4) dX8_lay_89 rfl rfl ?_
          refine b_put (a := (98 + 5 * (Int.toNat s))) (v := vI q) dX8_lay_90 pwX8_299 (fun h => nomatch h) (by have := (sl_i (show (Int.toNat s) < 5 by omega)).2.2.1; omega) (sl_i (show (Int.toNat s) < 5 by omega)).2.1 (by decide) (sl_i (show (Int.toNat s) < 5 by omega)).2.2.2.1 rfl (fit_int _) ?_
          show Aj γ mX8_lay d 0 0 Post 93 [(5, vI v2), (4, vA (98 + 5 * (Int.toNat s))), (0, vA 0), (1, vI s), (2, vI q), (3, vI k)] [] (mk (up2 h (98 + 5 * (Int.toNat s)) 0 q) τ)
          refine a_iload_n (j := 4) dX8_lay_93 rfl rfl ?_
          refine a_iconst dX8_lay_94 ⟨by decide, by decide⟩ ?_
          refine a_icmp_ne (tgt := 118) dX8_lay_95 (by decide) (fun c95_6 => ?_) (fun c95_6 => absurd c95_6 (by omega))
          refine a_iload_n (j := 4) dX8_lay_118 rfl rfl ?_
          refine a_iconst dX8_lay_119 ⟨by decide, by decide⟩ ?_
          refine a_icmp_ne (tgt := 140) dX8_lay_120 (by decide) (fun c120_7 => ?_) (fun c120_7 => absurd c120_7 (by omega))
          refine a_aload (j := 1) dX8_lay_140 rfl (Nat.le_of_ble_eq_true rfl) ?_
          refine a_iload_n (j := 5) dX8_lay_142 rfl rfl ?_
          refine b_put (a := (98 + 5 * (Int.toNat s))) (v := vI k) dX8_lay_143 pwX8_316 (fun h => nomatch h) (by have := (sl_i (show (Int.toNat s) < 5 by omega)).2.2.1; omega) (sl_i (show (Int.toNat s) < 5 by omega)).2.1 (by decide) (sl_i (show (Int.toNat s) < 5 by omega)).2.2.2.2.1 rfl (fit_int _) ?_
          show Aj γ mX8_lay d 0 0 Post 146 [(5, vI v2), (4, vA (98 + 5 * (Int.toNat s))), (0, vA 0), (1, vI s), (2, vI q), (3, vI k)] [] (mk (up2 (up2 h (98 + 5 * (Int.toNat s)) 0 q) (98 + 5 * (Int.toNat s)) 1 k) τ)
          refine a_iload (j := 0) dX8_lay_146 rfl ?_
          exact a_iret dX8_lay_148 rfl (k1 t1_1 t10_2 c21_3 c37_4 c52_5 c95_6 c120_7)
        · refine a_iload_n (j := 3) dX8_lay_40 rfl rfl ?_
          refine a_callS (d' := d - 1) (mc' := 0) (ms' := 0) (mc1 := 0) (ms1 := 0) (st := []) [vI k] dX8_lay_41 mwX8_isSheet lkX8_266 rfl (Nat.le_of_ble_eq_true rfl) (by omega) rfl rfl (c_X8_isSheet  (by omega)    (fun t41_8 => ?_) (fun t41_8 => ?_))
          · have t41_8 : 0 ≤ k ∧ k ≤ 3 := t41_8
            show Aj γ mX8_lay d 0 0 Post 44 [(0, vA 0), (1, vI s), (2, vI q), (3, vI k)] [vI 1] (mk h τ)
            refine a_if_ne (tgt := 50) dX8_lay_44 (by decide) (fun _ => ?_) (fun c => absurd c (by decide))
            refine a_iload_n (j := 2) dX8_lay_50 rfl rfl ?_
            refine a_iconst dX8_lay_51 ⟨by decide, by decide⟩ ?_
            refine a_icmp_ne (tgt := 72) dX8_lay_52 (by decide) (fun c52_9 => absurd c52_9 (by omega)) (fun c52_9 => ?_)
            refine a_aload_n (j := 0) dX8_lay_55 rfl rfl (Nat.le_of_ble_eq_true rfl) ?_
            refine b_getp (a := 0) (p := 87) dX8_lay_56 fwX8_52 (by decide) rfl (by decide) rfl rfl ?_
            refine a_iload_n (j := 3) dX8_lay_59 rfl rfl ?_
            refine b_aaloadp (a := 87) (p := (90 + 2 * (Int.toNat k))) (Int.toNat k) dX8_lay_60 (by decide) rfl qa_15 (by omega) (by omega) (sh_i (show (Int.toNat k) < 4 by omega)).2 ?_
            refine b_get (a := (90 + 2 * (Int.toNat k))) (z := v3) (t := 0) dX8_lay_61 fwX8_273 (by have := (sh_i (show (Int.toNat k) < 4 by omega)).1.1; omega) (sh_i (show (Int.toNat k) < 4 by omega)).1.2.1 (by decide) (sh_s (sh_i (show (Int.toNat k) < 4 by omega)).1 (by decide)) rfl e3 ?_
            refine a_iconst dX8_lay_64 ⟨by decide, by decide⟩ ?_
            refine a_icmp_ne (tgt := 72) dX8_lay_65 (by decide) (fun c65_10 => ?_) (fun c65_10 => ?_)
            · refine a_aload_n (j := 0) dX8_lay_72 rfl rfl (Nat.le_of_ble_eq_true rfl) ?_
              refine b_getp (a := 0) (p := 88) dX8_lay_73 fwX8_58 (by decide) rfl (by decide) rfl rfl ?_
              refine a_iload_n (j := 1) dX8_lay_76 rfl rfl ?_
              refine b_aaloadp (a := 88) (p := (98 + 5 * (Int.toNat s))) (Int.toNat s) dX8_lay_77 (by decide) rfl qa_16 (by omega) (by omega) (sl_i (show (Int.toNat s) < 5 by omega)).1 ?_
              refine a_astore (lv' := [(4, vA (98 + 5 * (Int.toNat s))), (0, vA 0), (1, vI s), (2, vI q), (3, vI k)]) dX8_lay_78 (by decide) (Nat.le_of_ble_eq_true rfl) rfl ?_
              refine a_aload (j := 0) dX8_lay_80 rfl (Nat.le_of_ble_eq_true rfl) ?_
              refine b_get (a := (98 + 5 * (Int.toNat s))) (z := v2) (t := 0) dX8_lay_82 fwX8_299 (by have := (sl_i (show (Int.toNat s) < 5 by omega)).2.2.1; omega) (sl_i (show (Int.toNat s) < 5 by omega)).2.1 (by decide) (sl_i (show (Int.toNat s) < 5 by omega)).2.2.2.1 rfl e2 ?_
              refine a_istore (lv' := [(5, vI v2), (4, vA (98 + 5 * (Int.toNat s))), (0, vA 0), (1, vI s), (2, vI q), (3, vI k)]) dX8_lay_85 (by decide) rfl ?_
              refine a_aload (j := 1) dX8_lay_87 rfl (Nat.le_of_ble_eq_true rfl) ?_
              refine a_iload_n (j := 4) dX8_lay_89 rfl rfl ?_
              refine b_put (a := (98 + 5 * (Int.toNat s))) (v := vI q) dX8_lay_90 pwX8_299 (fun h => nomatch h) (by have := (sl_i (show (Int.toNat s) < 5 by omega)).2.2.1; omega) (sl_i (show (Int.toNat s) < 5 by omega)).2.1 (by decide) (sl_i (show (Int.toNat s) < 5 by omega)).2.2.2.1 rfl (fit_int _) ?_
              show Aj γ mX8_lay d 0 0 Post 93 [(5, vI v2), (4, vA (98 + 5 * (Int.toNat s))), (0, vA 0), (1, vI s), (2, vI q), (3, vI k)] [] (mk (up2 h (98 + 5 * (Int.toNat s)) 0 q) τ)
              refine a_iload_n (j := 4) dX8_lay_93 rfl rfl ?_
              refine a_iconst dX8_lay_94 ⟨by decide, by decide⟩ ?_
              refine a_icmp_ne (tgt := 118) dX8_lay_95 (by decide) (fun c95_11 => ?_) (fun c95_11 => absurd c95_11 (by omega))
              refine a_iload_n (j := 4) dX8_lay_118 rfl rfl ?_
              refine a_iconst dX8_lay_119 ⟨by decide, by decide⟩ ?_
              refine a_icmp_ne (tgt := 140) dX8_lay_120 (by decide) (fun c120_12 => absurd c120_12 (by omega)) (fun c120_12 => ?_)
              refine a_aload (j := 1) dX8_lay_123 rfl (Nat.le_of_ble_eq_true rfl) ?_
              refine b_getp (a := (98 + 5 * (Int.toNat s))) (p := ((98 + 5 * (Int.toNat s)) + 3)) dX8_lay_125 fwX8_309 (by have := (sl_i (show (Int.toNat s) < 5 by omega)).2.2.1; omega) (sl_i (show (Int.toNat s) < 5 by omega)).2.1 (by decide) (sl_i (show (Int.toNat s) < 5 by omega)).2.2.2.2.2.2.1 rfl ?_
              refine a_aload_n (j := 2) dX8_lay_128 rfl rfl (Nat.le_of_ble_eq_true rfl) ?_
              refine b_getp (a := 0) (p := 87) dX8_lay_129 fwX8_52 (by decide) rfl (by decide) rfl rfl ?_
              refine a_iload_n (j := 5) dX8_lay_132 rfl rfl ?_
              refine b_aaloadp (a := 87) (p := (90 + 2 * (Int.toNat k))) (Int.toNat k) dX8_lay_133 (by decide) rfl qa_15 (by omega) (by omega) (sh_i (show (Int.toNat k) < 4 by omega)).2 ?_
              refine b_callV (d' := d - 1) (mc' := 0) (ms' := 0) (mc1 := 0) (ms1 := 0) (st := []) (b := ((98 + 5 * (Int.toNat s)) + 3)) [vA (90 + 2 * (Int.toNat k))] dX8_lay_134 mwX1_takeFrom lkX8_313 (by have := (sl_i (show (Int.toNat s) < 5 by omega)).2.2.2.2.2.2.2.2.1; omega) (sl_i (show (Int.toNat s) < 5 by omega)).2.2.2.2.2.2.2.2.2.1 rc_X1 rfl (Nat.le_of_ble_eq_true rfl) (by omega) rfl rfl (c_X1_takeFrom (v1 := v3) (v2 := v4) (f3 := f5) (f4 := f6) (by omega) (sl_i (show (Int.toNat s) < 5 by omega)).2.2.2.2.2.2.2.2 (sh_i (show (Int.toNat k) < 4 by omega)).1 (by omega) ((up2_ne (by omega)).trans e3) ((up2_ne (by omega)).trans e4) ((up2_row (by omega)).trans r5) ((up2_row (by omega)).trans r6)  ?_)
              show Aj γ mX8_lay d 0 0 Post 137 [(5, vI v2), (4, vA (98 + 5 * (Int.toNat s))), (0, vA 0), (1, vI s), (2, vI q), (3, vI k)] [] (mk (upR (up2 (up2 (up2 h (98 + 5 * (Int.toNat s)) 0 q) ((98 + 5 * (Int.toNat s)) + 3) 0 v3) ((98 + 5 * (Int.toNat s)) + 3) 1 v4) (((98 + 5 * (Int.toNat s)) + 3) + 1) (cpy f5 f6 0 0 24)) τ)
              refine a_goto (tgt := 146) dX8_lay_137 (by decide) ?_
              refine a_iload (j := 0) dX8_lay_146 rfl ?_
              exact a_iret dX8_lay_148 rfl (k2 t1_1 t10_2 c21_3 c37_4 t41_8 c52_9 c65_10 c95_11 c120_12)
            · refine a_ldcw (z := (-1000000011)) dX8_lay_68 kwX8_276 ⟨by decide, by decide, by decide⟩ ?_
              exact a_iret dX8_lay_71 rfl (k3 t1_1 t10_2 c21_3 c37_4 t41_8 c52_9 c65_10)
          · have t41_8 : ¬ (0 ≤ k ∧ k ≤ 3) := t41_8
            show Aj γ mX8_lay d 0 0 Post 44 [(0, vA 0), (1, vI s), (2, vI q), (3, vI k)] [vI 0] (mk h τ)
            refine a_if_ne (tgt := 50) dX8_lay_44 (by decide) (fun c => absurd c (by decide)) (fun _ => ?_)
            refine a_ldc (z := (-1000000001)) dX8_lay_47 kwX8_72 ⟨by decide, by decide, by decide⟩ ?_
            exact a_iret dX8_lay_49 rfl (k4 t1_1 t10_2 c21_3 c37_4 t41_8)
      · refine a_aload_n (j := 0) dX8_lay_24 rfl rfl (Nat.le_of_ble_eq_true rfl) ?_
        refine b_getp (a := 0) (p := 1) dX8_lay_25 fwX8_14 (by decide) rfl (by decide) rfl rfl ?_
        refine a_iload_n (j := 3) dX8_lay_28 rfl rfl ?_
        refine b_callV (d' := d - 1) (mc' := 0) (ms' := 0) (mc1 := 0) (ms1 := 0) (st := []) (b := 1) [vI k] dX8_lay_29 mwX7_isTrain lkX8_121 (by decide) rfl rc_X7 rfl (Nat.le_of_ble_eq_true rfl) (by omega) rfl rfl (c_X7_isTrain (v1 := v1) (by omega) (Or.inl rfl) e1 (show 0 ≤ v1 ∧ v1 ≤ 12 by omega) (fun t29_13 => ?_) (fun t29_13 => ?_))
        · have t29_13 : 0 ≤ k ∧ k < v1 := t29_13
          show Aj γ mX8_lay d 0 0 Post 32 [(0, vA 0), (1, vI s), (2, vI q), (3, vI k)] [vI 1] (mk h τ)
          refine a_if_eq (tgt := 47) dX8_lay_32 (by decide) (fun c => absurd c (by decide)) (fun _ => ?_)
          refine a_iload_n (j := 2) dX8_lay_35 rfl rfl ?_
          refine a_iconst dX8_lay_36 ⟨by decide, by decide⟩ ?_
          refine a_icmp_ne (tgt := 50) dX8_lay_37 (by decide) (fun c37_14 => ?_) (fun c37_14 => absurd c37_14 (by omega))
          refine a_iload_n (j := 2) dX8_lay_50 rfl rfl ?_
          refine a_iconst dX8_lay_51 ⟨by decide, by decide⟩ ?_
          refine a_icmp_ne (tgt := 72) dX8_lay_52 (by decide) (fun c52_15 => ?_) (fun c52_15 => absurd c52_15 (by omega))
          refine a_aload_n (j := 0) dX8_lay_72 rfl rfl (Nat.le_of_ble_eq_true rfl) ?_
          refine b_getp (a := 0) (p := 88) dX8_lay_73 fwX8_58 (by decide) rfl (by decide) rfl rfl ?_
          refine a_iload_n (j := 1) dX8_lay_76 rfl rfl ?_
          refine b_aaloadp (a := 88) (p := (98 + 5 * (Int.toNat s))) (Int.toNat s) dX8_lay_77 (by decide) rfl qa_16 (by omega) (by omega) (sl_i (show (Int.toNat s) < 5 by omega)).1 ?_
          refine a_astore (lv' := [(4, vA (98 + 5 * (Int.toNat s))), (0, vA 0), (1, vI s), (2, vI q), (3, vI k)]) dX8_lay_78 (by decide) (Nat.le_of_ble_eq_true rfl) rfl ?_
          refine a_aload (j := 0) dX8_lay_80 rfl (Nat.le_of_ble_eq_true rfl) ?_
          refine b_get (a := (98 + 5 * (Int.toNat s))) (z := v2) (t := 0) dX8_lay_82 fwX8_299 (by have := (sl_i (show (Int.toNat s) < 5 by omega)).2.2.1; omega) (sl_i (show (Int.toNat s) < 5 by omega)).2.1 (by decide) (sl_i (show (Int.toNat s) < 5 by omega)).2.2.2.1 rfl e2 ?_
          refine a_istore (lv' := [(5, vI v2), (4, vA (98 + 5 * (Int.toNat s))), (0, vA 0), (1, vI s), (2, vI q), (3, vI k)]) dX8_lay_85 (by decide) rfl ?_
          refine a_aload (j := 1) dX8_lay_87 rfl (Nat.le_of_ble_eq_true rfl) ?_
          refine a_iload_n (j := 4) dX8_lay_89 rfl rfl ?_
          refine b_put (a := (98 + 5 * (Int.toNat s))) (v := vI q) dX8_lay_90 pwX8_299 (fun h => nomatch h) (by have := (sl_i (show (Int.toNat s) < 5 by omega)).2.2.1; omega) (sl_i (show (Int.toNat s) < 5 by omega)).2.1 (by decide) (sl_i (show (Int.toNat s) < 5 by omega)).2.2.2.1 rfl (fit_int _) ?_
          show Aj γ mX8_lay d 0 0 Post 93 [(5, vI v2), (4, vA (98 + 5 * (Int.toNat s))), (0, vA 0), (1, vI s), (2, vI q), (3, vI k)] [] (mk (up2 h (98 + 5 * (Int.toNat s)) 0 q) τ)
          refine a_iload_n (j := 4) dX8_lay_93 rfl rfl ?_
          refine a_iconst dX8_lay_94 ⟨by decide, by decide⟩ ?_
          refine a_icmp_ne (tgt := 118) dX8_lay_95 (by decide) (fun c95_16 => absurd c95_16 (by omega)) (fun c95_16 => ?_)
          refine a_aload (j := 1) dX8_lay_98 rfl (Nat.le_of_ble_eq_true rfl) ?_
          refine b_getp (a := (98 + 5 * (Int.toNat s))) (p := ((98 + 5 * (Int.toNat s)) + 1)) dX8_lay_100 fwX8_302 (by have := (sl_i (show (Int.toNat s) < 5 by omega)).2.2.1; omega) (sl_i (show (Int.toNat s) < 5 by omega)).2.1 (by decide) (sl_i (show (Int.toNat s) < 5 by omega)).2.2.2.2.2.1 rfl ?_
          refine a_aload_n (j := 2) dX8_lay_103 rfl rfl (Nat.le_of_ble_eq_true rfl) ?_
          refine b_getp (a := 0) (p := 1) dX8_lay_104 fwX8_14 (by decide) rfl (by decide) rfl rfl ?_
          refine b_getp (a := 1) (p := 3) dX8_lay_107 fwX8_105 (by decide) rfl (by decide) rfl rfl ?_
          refine a_iload_n (j := 5) dX8_lay_110 rfl rfl ?_
          refine b_aaloadp (a := 3) (p := (8 + 2 * (Int.toNat k))) (Int.toNat k) dX8_lay_111 (by decide) rfl qa_18 (by omega) (by omega) (tr_a (Or.inl rfl : isWd 1) (show (Int.toNat k) < 12 by omega)) ?_
          refine b_callV (d' := d - 1) (mc' := 0) (ms' := 0) (mc1 := 0) (ms1 := 0) (st := []) (b := ((98 + 5 * (Int.toNat s)) + 1)) [vA (8 + 2 * (Int.toNat k))] dX8_lay_112 mwX6_takeFrom lkX8_305 (by have := (sl_i (show (Int.toNat s) < 5 by omega)).2.2.2.2.2.2.2.1.1; omega) (sl_i (show (Int.toNat s) < 5 by omega)).2.2.2.2.2.2.2.1.2.1 rc_X6 rfl (Nat.le_of_ble_eq_true rfl) (by omega) rfl rfl (c_X6_takeFrom (v1 := v7) (v2 := v8) (v3 := v9) (v4 := v10) (v5 := v11) (v6 := v12) (v7 := v13) (f8 := f14) (f9 := f15) (by omega) (sl_i (show (Int.toNat s) < 5 by omega)).2.2.2.2.2.2.2.1 (tr_w (Or.inl rfl : isWd 1) (show (Int.toNat k) < 12 by omega)) (by omega) ((up2_ne (by omega)).trans e7) ((up2_ne (by omega)).trans e8) ((up2_ne (by omega)).trans e9) ((up2_ne (by omega)).trans e10) ((up2_ne (by omega)).trans e11) ((up2_ne (by omega)).trans e12) ((up2_ne (by omega)).trans e13) ((up2_row (by omega)).trans r14) ((up2_row (by omega)).trans r15)  ?_)
          show Aj γ mX8_lay d 0 0 Post 115 [(5, vI v2), (4, vA (98 + 5 * (Int.toNat s))), (0, vA 0), (1, vI s), (2, vI q), (3, vI k)] [] (mk (upR (up2 (up2 (up2 (up2 (up2 (up2 (up2 (up2 h (98 + 5 * (Int.toNat s)) 0 q) ((98 + 5 * (Int.toNat s)) + 1) 0 v7) ((98 + 5 * (Int.toNat s)) + 1) 1 v8) ((98 + 5 * (Int.toNat s)) + 1) 2 v9) ((98 + 5 * (Int.toNat s)) + 1) 3 v10) ((98 + 5 * (Int.toNat s)) + 1) 4 v11) ((98 + 5 * (Int.toNat s)) + 1) 5 v12) ((98 + 5 * (Int.toNat s)) + 1) 6 v13) (((98 + 5 * (Int.toNat s)) + 1) + 1) (cpy f14 f15 0 0 4)) τ)
          refine a_goto (tgt := 146) dX8_lay_115 (by decide) ?_
          refine a_iload (j := 0) dX8_lay_146 rfl ?_
          exact a_iret dX8_lay_148 rfl (k5 t1_1 t10_2 c21_3 t29_13 c37_14 c52_15 c95_16)
        · have t29_13 : ¬ (0 ≤ k ∧ k < v1) := t29_13
          show Aj γ mX8_lay d 0 0 Post 32 [(0, vA 0), (1, vI s), (2, vI q), (3, vI k)] [vI 0] (mk h τ)
          refine a_if_eq (tgt := 47) dX8_lay_32 (by decide) (fun _ => ?_) (fun c => absurd c (by decide))
          refine a_ldc (z := (-1000000001)) dX8_lay_47 kwX8_72 ⟨by decide, by decide, by decide⟩ ?_
          exact a_iret dX8_lay_49 rfl (k6 t1_1 t10_2 c21_3 t29_13)
    · have t10_2 : ¬ (0 ≤ q ∧ q ≤ 3) := t10_2
      show Aj γ mX8_lay d 0 0 Post 13 [(0, vA 0), (1, vI s), (2, vI q), (3, vI k)] [vI 0] (mk h τ)
      refine a_if_ne (tgt := 19) dX8_lay_13 (by decide) (fun c => absurd c (by decide)) (fun _ => ?_)
      refine a_ldc (z := (-1000000001)) dX8_lay_16 kwX8_72 ⟨by decide, by decide, by decide⟩ ?_
      exact a_iret dX8_lay_18 rfl (k7 t1_1 t10_2)
  · have t1_1 : ¬ (0 ≤ s ∧ s ≤ 4) := t1_1
    show Aj γ mX8_lay d 0 0 Post 4 [(0, vA 0), (1, vI s), (2, vI q), (3, vI k)] [vI 0] (mk h τ)
    refine a_if_eq (tgt := 16) dX8_lay_4 (by decide) (fun _ => ?_) (fun c => absurd c (by decide))
    refine a_ldc (z := (-1000000001)) dX8_lay_16 kwX8_72 ⟨by decide, by decide, by decide⟩ ?_
    exact a_iret dX8_lay_18 rfl (k8 t1_1)
