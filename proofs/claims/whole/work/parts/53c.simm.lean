set_option maxHeartbeats 16000000 in
theorem s_add {γ : GT} {d mc ms n i : Nat} {N J : Nat → Int} {h : Nat → Nat → Int} {τ : List AC} {Post : Option AV → List AC → Prop} (hd : 30 ≤ d) (hn : n < 64) (hi : i + 5 < g_L γ) (hL : g_L γ ≤ 384) (hI : IVp n h τ N J) (kE : ∀ h' N' J', IVp (n + 1) h' τ N' J' → Aj γ mL_law d mc ms Post 1668 [(0, vK 0), (1, vA 0), (2, vA 123), (3, vI ((i : Nat) : Int))] [] (mk h' τ)) : Aj γ mL_law d mc ms Post 685 [(0, vK 0), (1, vA 0), (2, vA 123), (3, vI ((i : Nat) : Int))] [] (mk h τ) := by
  obtain ⟨hN, hJ, hX, hR, hk, hkK, hC, hRC, hst, hO⟩ := id hI
  have hsc := hX.1.1
  have hs1 := hsc.1
  have hs2 := hsc.2.1
  have hs3 := hsc.2.2.1
  have hs4 := hsc.2.2.2.1
  have hs5 := hsc.2.2.2.2
  have hs6 := hX.1.2.2.2.1
  have hx7 := hX.2.1
  have hx8 := hX.2.2.2.1
  obtain ⟨a1, ha1⟩ : ∃ z, (g_x γ (i + 1)).toInt = z := ⟨_, rfl⟩
  have ra1 : inI a1 := ha1 ▸ i32_rng _
  unfold inI at ra1
  obtain ⟨p0, hp0⟩ : ∃ z : Nat, N 7 = (z : Int) := ⟨Int.toNat (N 7), by omega⟩
  refine a_aload_n (j := 1) dL_law_685 rfl rfl (Nat.le_of_ble_eq_true rfl) ?_
  refine a_aload_n (j := 0) dL_law_686 rfl rfl (Nat.le_of_ble_eq_true rfl) ?_
  refine a_iload_n (j := 3) dL_law_687 rfl rfl ?_
  refine a_iconst dL_law_688 ⟨by decide, by decide⟩ ?_
  refine a_iadd (z := (((i : Nat) : Int) + 1)) dL_law_689 (w_ok (by omega) (by omega)) ?_
  refine a_sld (i + 1) dL_law_690 (by omega) (by omega) ?_
  rw [ha1]
  refine b_callV (d' := d - 1) (mc' := 0) (ms' := 0) (mc1 := mc) (ms1 := ms) (st := []) (b := 0) [vI a1] dL_law_691 mwX8_add lkL_69 (by decide) rfl rc_X8 rfl (Nat.le_of_ble_eq_true rfl) (by omega) (by omega) (by omega) (c_X8_add (v1 := (N 5)) (v2 := ((p0 : Nat) : Int)) (by omega)  hR.1.2.1 (hR.1.2.2.2.1.trans hp0) (show 0 ≤ (N 5) ∧ (N 5) ≤ 12 by omega) (show 0 ≤ ((p0 : Nat) : Int) ∧ ((p0 : Nat) : Int) ≤ 6 by omega) (fun t5_1_1 c23_2_1 => ?_) (fun t5_1_1 c23_2_1 => ?_) (fun t5_1_1 => ?_))
  · have t5_1_1 : 0 ≤ a1 ∧ a1 < (N 5) := t5_1_1
    have c23_2_1 : ((p0 : Nat) : Int) < 6 := c23_2_1
    show Aj γ mL_law d mc ms Post 694 [(0, vK 0), (1, vA 0), (2, vA 123), (3, vI ((i : Nat) : Int))] [vI (((p0 : Nat) : Int) + 1)] (mk (up2 (up2 h 5 p0 a1) 1 7 (((p0 : Nat) : Int) + 1)) τ)
    refine a_aload_n (j := 2) dL_law_694 rfl rfl (Nat.le_of_ble_eq_true rfl) ?_
    refine a_aload_n (j := 0) dL_law_695 rfl rfl (Nat.le_of_ble_eq_true rfl) ?_
    refine a_iload_n (j := 3) dL_law_696 rfl rfl ?_
    refine a_iconst dL_law_697 ⟨by decide, by decide⟩ ?_
    refine a_iadd (z := (((i : Nat) : Int) + 1)) dL_law_698 (w_ok (by omega) (by omega)) ?_
    refine a_sld (i + 1) dL_law_699 (by omega) (by omega) ?_
    rw [ha1]
    refine b_callV (d' := d - 1) (mc' := 0) (ms' := 0) (mc1 := mc) (ms1 := ms) (st := [vI (((p0 : Nat) : Int) + 1)]) (b := 123) [vI a1] dL_law_700 mwX9_add lkL_72 (by decide) rfl rc_X9 rfl (Nat.le_of_ble_eq_true rfl) (by omega) (by omega) (by omega) (c_X9_add (v1 := (N 5)) (v2 := ((p0 : Nat) : Int)) (by omega)  ((up2_ne (by omega)).trans ((up2_ne (by omega)).trans (congrFun hN _))) ((up2_ne (by omega)).trans ((up2_ne (by omega)).trans ((congrFun hN 7).trans hp0))) (show 0 ≤ (N 5) ∧ (N 5) ≤ 12 by omega) (show 0 ≤ ((p0 : Nat) : Int) ∧ ((p0 : Nat) : Int) ≤ 6 by omega) (fun t2_1_3 c20_3_3 => ?_) (fun t2_1_3 c20_3_3 => ?_) (fun t2_1_3 => ?_))
    · have t2_1_3 : 0 ≤ a1 ∧ a1 < (N 5) := t2_1_3
      have c20_3_3 : ¬ ((p0 : Nat) : Int) = 6 := c20_3_3
      show Aj γ mL_law d mc ms Post 703 [(0, vK 0), (1, vA 0), (2, vA 123), (3, vI ((i : Nat) : Int))] [vI (((p0 : Nat) : Int) + 1), vI (((p0 : Nat) : Int) + 1)] (mk (up2 (up2 (up2 (up2 h 5 p0 a1) 1 7 (((p0 : Nat) : Int) + 1)) 124 (Int.toNat (147 + ((p0 : Nat) : Int))) a1) 124 7 (((p0 : Nat) : Int) + 1)) τ)
      refine a_icmp_eq (tgt := 1668) dL_law_703 (by decide) (fun c703_5 => ?_) (fun c703_5 => ?_)
      · generalize hHH : (up2 (up2 (up2 (up2 h 5 p0 a1) 1 7 (((p0 : Nat) : Int) + 1)) 124 (Int.toNat (147 + ((p0 : Nat) : Int))) a1) 124 7 (((p0 : Nat) : Int) + 1)) = H
        have a1_ : ∀ k : Nat, k ≠ 7 → H 1 k = h 1 k := fun k q0_ => by rw [← hHH]; exact ((up2_ne (by omega)).trans ((up2_ne (by omega)).trans ((up2_ne (by omega)).trans ((up2_ne (by omega)).trans rfl))))
        have a2_ : H 1 7 = (((p0 : Nat) : Int) + 1) := by rw [← hHH]; exact ((up2_ne (by omega)).trans ((up2_ne (by omega)).trans (up2_hit (by omega) (by omega))))
        have a3_ : H 5 p0 = a1 := by rw [← hHH]; exact ((up2_ne (by omega)).trans ((up2_ne (by omega)).trans ((up2_ne (by omega)).trans (up2_hit (by omega) (by omega)))))
        have a4_ : ∀ k : Nat, k ≠ p0 → H 5 k = h 5 k := fun k q0_ => by rw [← hHH]; exact ((up2_ne (by omega)).trans ((up2_ne (by omega)).trans ((up2_ne (by omega)).trans ((up2_ne (by omega)).trans rfl))))
        have a5_ : ∀ c, 2 ≤ c → c < 32 → c ≠ 5 → H c = h c := fun c q0_ q1_ q2_ => by rw [← hHH]; exact ((up2_row (by omega)).trans ((up2_row (by omega)).trans ((up2_row (by omega)).trans ((up2_row (by omega)).trans rfl))))
        have n1_ : H 124 7 = (((p0 : Nat) : Int) + 1) := by rw [← hHH]; exact (up2_hit (by omega) (by omega))
        have n2_ : H 124 (147 + p0) = a1 := by rw [← hHH]; exact ((up2_ne (by omega)).trans (up2_hit (by omega) (by omega)))
        have n3_ : ∀ k : Nat, k ≠ 7 → k ≠ 147 + p0 → H 124 k = N k := fun k q0_ q1_ => by rw [← hHH]; exact ((up2_ne (by omega)).trans ((up2_ne (by omega)).trans ((up2_ne (by omega)).trans ((up2_ne (by omega)).trans (congrFun hN _)))))
        have hW := W_add (h := h) (h' := H) hX hR hp0 (by omega) (by omega) a1_ a2_ a3_ a4_ a5_ n1_ n2_ n3_
        have gF : ∀ c, ¬ inW c → H c = h c := fun c q0_ => by unfold inW at q0_; rw [← hHH]; exact ((up2_row (by omega)).trans ((up2_row (by omega)).trans ((up2_row (by omega)).trans ((up2_row (by omega)).trans rfl))))
        have g0 : ∀ k : Nat, k ≠ 8 → H 0 k = h 0 k := fun k q0_ => by rw [← hHH]; exact ((up2_ne (by omega)).trans ((up2_ne (by omega)).trans ((up2_ne (by omega)).trans ((up2_ne (by omega)).trans rfl))))
        have e10 : H 1 0 = h 1 0 := by rw [← hHH]; exact ((up2_ne (by omega)).trans ((up2_ne (by omega)).trans ((up2_ne (by omega)).trans ((up2_ne (by omega)).trans rfl))))
        have g3 : H 123 = h 123 := by rw [← hHH]; exact ((up2_row (by omega)).trans ((up2_row (by omega)).trans ((up2_row (by omega)).trans ((up2_row (by omega)).trans rfl))))
        exact kE H (H 124) J (IV_up (by omega) (IV_n hI gF g0 e10 g3 rfl hW.2.2 hW.1 hW.2.1))
      · refine a_iconst dL_law_706 ⟨by decide, by decide⟩ ?_
        exact a_zret dL_law_707 rfl (by first | exact Or.inl rfl | exact Or.inr rfl | omega) (by exfalso; omega)
    · have t2_1_3 : 0 ≤ a1 ∧ a1 < (N 5) := t2_1_3
      have c20_3_3 : ((p0 : Nat) : Int) = 6 := c20_3_3
      show Aj γ mL_law d mc ms Post 703 [(0, vK 0), (1, vA 0), (2, vA 123), (3, vI ((i : Nat) : Int))] [vI (-1000000003), vI (((p0 : Nat) : Int) + 1)] (mk (up2 (up2 h 5 p0 a1) 1 7 (((p0 : Nat) : Int) + 1)) τ)
      refine a_icmp_eq (tgt := 1668) dL_law_703 (by decide) (fun c703_6 => ?_) (fun c703_6 => ?_)
      · exfalso
        omega
      · refine a_iconst dL_law_706 ⟨by decide, by decide⟩ ?_
        exact a_zret dL_law_707 rfl (by first | exact Or.inl rfl | exact Or.inr rfl | omega) (by exfalso; omega)
    · exfalso
      omega
  · have t5_1_1 : 0 ≤ a1 ∧ a1 < (N 5) := t5_1_1
    have c23_2_1 : ¬ ((p0 : Nat) : Int) < 6 := c23_2_1
    show Aj γ mL_law d mc ms Post 694 [(0, vK 0), (1, vA 0), (2, vA 123), (3, vI ((i : Nat) : Int))] [vI (-1000000003)] (mk h τ)
    refine a_aload_n (j := 2) dL_law_694 rfl rfl (Nat.le_of_ble_eq_true rfl) ?_
    refine a_aload_n (j := 0) dL_law_695 rfl rfl (Nat.le_of_ble_eq_true rfl) ?_
    refine a_iload_n (j := 3) dL_law_696 rfl rfl ?_
    refine a_iconst dL_law_697 ⟨by decide, by decide⟩ ?_
    refine a_iadd (z := (((i : Nat) : Int) + 1)) dL_law_698 (w_ok (by omega) (by omega)) ?_
    refine a_sld (i + 1) dL_law_699 (by omega) (by omega) ?_
    rw [ha1]
    refine b_callV (d' := d - 1) (mc' := 0) (ms' := 0) (mc1 := mc) (ms1 := ms) (st := [vI (-1000000003)]) (b := 123) [vI a1] dL_law_700 mwX9_add lkL_72 (by decide) rfl rc_X9 rfl (Nat.le_of_ble_eq_true rfl) (by omega) (by omega) (by omega) (c_X9_add (v1 := (N 5)) (v2 := ((p0 : Nat) : Int)) (by omega)  (congrFun hN _) ((congrFun hN 7).trans hp0) (show 0 ≤ (N 5) ∧ (N 5) ≤ 12 by omega) (show 0 ≤ ((p0 : Nat) : Int) ∧ ((p0 : Nat) : Int) ≤ 6 by omega) (fun t2_1_7 c20_3_7 => ?_) (fun t2_1_7 c20_3_7 => ?_) (fun t2_1_7 => ?_))
    · have t2_1_7 : 0 ≤ a1 ∧ a1 < (N 5) := t2_1_7
      have c20_3_7 : ¬ ((p0 : Nat) : Int) = 6 := c20_3_7
      show Aj γ mL_law d mc ms Post 703 [(0, vK 0), (1, vA 0), (2, vA 123), (3, vI ((i : Nat) : Int))] [vI (((p0 : Nat) : Int) + 1), vI (-1000000003)] (mk (up2 (up2 h 124 (Int.toNat (147 + ((p0 : Nat) : Int))) a1) 124 7 (((p0 : Nat) : Int) + 1)) τ)
      refine a_icmp_eq (tgt := 1668) dL_law_703 (by decide) (fun c703_9 => ?_) (fun c703_9 => ?_)
      · exfalso
        omega
      · refine a_iconst dL_law_706 ⟨by decide, by decide⟩ ?_
        exact a_zret dL_law_707 rfl (by first | exact Or.inl rfl | exact Or.inr rfl | omega) (by exfalso; omega)
    · have t2_1_7 : 0 ≤ a1 ∧ a1 < (N 5) := t2_1_7
      have c20_3_7 : ((p0 : Nat) : Int) = 6 := c20_3_7
      show Aj γ mL_law d mc ms Post 703 [(0, vK 0), (1, vA 0), (2, vA 123), (3, vI ((i : Nat) : Int))] [vI (-1000000003), vI (-1000000003)] (mk h τ)
      refine a_icmp_eq (tgt := 1668) dL_law_703 (by decide) (fun _ => ?_) (fun c => absurd c (by decide))
      exact kE h N J (IV_up (by omega) hI)
    · exfalso
      omega
  · have t5_1_1 : ¬ (0 ≤ a1 ∧ a1 < (N 5)) := t5_1_1
    show Aj γ mL_law d mc ms Post 694 [(0, vK 0), (1, vA 0), (2, vA 123), (3, vI ((i : Nat) : Int))] [vI (-1000000001)] (mk h τ)
    refine a_aload_n (j := 2) dL_law_694 rfl rfl (Nat.le_of_ble_eq_true rfl) ?_
    refine a_aload_n (j := 0) dL_law_695 rfl rfl (Nat.le_of_ble_eq_true rfl) ?_
    refine a_iload_n (j := 3) dL_law_696 rfl rfl ?_
    refine a_iconst dL_law_697 ⟨by decide, by decide⟩ ?_
    refine a_iadd (z := (((i : Nat) : Int) + 1)) dL_law_698 (w_ok (by omega) (by omega)) ?_
    refine a_sld (i + 1) dL_law_699 (by omega) (by omega) ?_
    rw [ha1]
    refine b_callV (d' := d - 1) (mc' := 0) (ms' := 0) (mc1 := mc) (ms1 := ms) (st := [vI (-1000000001)]) (b := 123) [vI a1] dL_law_700 mwX9_add lkL_72 (by decide) rfl rc_X9 rfl (Nat.le_of_ble_eq_true rfl) (by omega) (by omega) (by omega) (c_X9_add (v1 := (N 5)) (v2 := ((p0 : Nat) : Int)) (by omega)  (congrFun hN _) ((congrFun hN 7).trans hp0) (show 0 ≤ (N 5) ∧ (N 5) ≤ 12 by omega) (show 0 ≤ ((p0 : Nat) : Int) ∧ ((p0 : Nat) : Int) ≤ 6 by omega) (fun t2_1_10 c20_3_10 => ?_) (fun t2_1_10 c20_3_10 => ?_) (fun t2_1_10 => ?_))
    · exfalso
      omega
    · exfalso
      omega
    · have t2_1_10 : ¬ (0 ≤ a1 ∧ a1 < (N 5)) := t2_1_10
      show Aj γ mL_law d mc ms Post 703 [(0, vK 0), (1, vA 0), (2, vA 123), (3, vI ((i : Nat) : Int))] [vI (-1000000001), vI (-1000000001)] (mk h τ)
      refine a_icmp_eq (tgt := 1668) dL_law_703 (by decide) (fun _ => ?_) (fun c => absurd c (by decide))
      exact kE h N J (IV_up (by omega) hI)
set_option maxHeartbeats 16000000 in
theorem s_guest {γ : GT} {d mc ms n i : Nat} {N J : Nat → Int} {h : Nat → Nat → Int} {τ : List AC} {Post : Option AV → List AC → Prop} (hd : 30 ≤ d) (hn : n < 64) (hi : i + 5 < g_L γ) (hL : g_L γ ≤ 384) (hI : IVp n h τ N J) (kE : ∀ h' N' J', IVp (n + 1) h' τ N' J' → Aj γ mL_law d mc ms Post 1668 [(0, vK 0), (1, vA 0), (2, vA 123), (3, vI ((i : Nat) : Int))] [] (mk h' τ)) : Aj γ mL_law d mc ms Post 1091 [(0, vK 0), (1, vA 0), (2, vA 123), (3, vI ((i : Nat) : Int))] [] (mk h τ) := by
  obtain ⟨hN, hJ, hX, hR, hk, hkK, hC, hRC, hst, hO⟩ := id hI
  have hsc := hX.1.1
  have hs1 := hsc.1
  have hs2 := hsc.2.1
  have hs3 := hsc.2.2.1
  have hs4 := hsc.2.2.2.1
  have hs5 := hsc.2.2.2.2
  have hs6 := hX.1.2.2.2.1
  have hx7 := hX.2.1
  have hx8 := hX.2.2.2.1
  obtain ⟨a1, ha1⟩ : ∃ z, (g_x γ (i + 1)).toInt = z := ⟨_, rfl⟩
  have ra1 : inI a1 := ha1 ▸ i32_rng _
  unfold inI at ra1
  obtain ⟨a2, ha2⟩ : ∃ z, (g_x γ (i + 2)).toInt = z := ⟨_, rfl⟩
  have ra2 : inI a2 := ha2 ▸ i32_rng _
  unfold inI at ra2
  obtain ⟨g0, hg0⟩ : ∃ z : Nat, N 8 = (z : Int) := ⟨Int.toNat (N 8), by omega⟩
  refine a_aload_n (j := 1) dL_law_1091 rfl rfl (Nat.le_of_ble_eq_true rfl) ?_
  refine a_aload_n (j := 0) dL_law_1092 rfl rfl (Nat.le_of_ble_eq_true rfl) ?_
  refine a_iload_n (j := 3) dL_law_1093 rfl rfl ?_
  refine a_iconst dL_law_1094 ⟨by decide, by decide⟩ ?_
  refine a_iadd (z := (((i : Nat) : Int) + 1)) dL_law_1095 (w_ok (by omega) (by omega)) ?_
  refine a_sld (i + 1) dL_law_1096 (by omega) (by omega) ?_
  rw [ha1]
  refine a_aload_n (j := 0) dL_law_1097 rfl rfl (Nat.le_of_ble_eq_true rfl) ?_
  refine a_iload_n (j := 3) dL_law_1098 rfl rfl ?_
  refine a_iconst dL_law_1099 ⟨by decide, by decide⟩ ?_
  refine a_iadd (z := (((i : Nat) : Int) + 2)) dL_law_1100 (w_ok (by omega) (by omega)) ?_
  refine a_sld (i + 2) dL_law_1101 (by omega) (by omega) ?_
  rw [ha2]
  refine b_callV (d' := d - 1) (mc' := 0) (ms' := 0) (mc1 := mc) (ms1 := ms) (st := []) (b := 0) [vI a1, vI a2] dL_law_1102 mwX8_guest lkL_131 (by decide) rfl rc_X8 rfl (Nat.le_of_ble_eq_true rfl) (by omega) (by omega) (by omega) (c_X8_guest (v1 := (N 4)) (v2 := ((g0 : Nat) : Int)) (by omega)  hR.1.1 (hR.1.2.2.2.2.2.2.2.1.trans hg0) (show 0 ≤ (N 4) ∧ (N 4) ≤ 6 by omega) (show 0 ≤ ((g0 : Nat) : Int) ∧ ((g0 : Nat) : Int) ≤ 10 by omega) (fun t5_1_1 t12_2_1 c30_3_1 => ?_) (fun t5_1_1 t12_2_1 c30_3_1 => ?_) (fun t5_1_1 t12_2_1 => ?_) (fun t5_1_1 => ?_))
  · have t5_1_1 : 0 ≤ a1 ∧ a1 < (N 4) := t5_1_1
    have t12_2_1 : 0 ≤ a2 ∧ a2 ≤ 1439 := t12_2_1
    have c30_3_1 : ((g0 : Nat) : Int) < 10 := c30_3_1
    show Aj γ mL_law d mc ms Post 1105 [(0, vK 0), (1, vA 0), (2, vA 123), (3, vI ((i : Nat) : Int))] [vI ((((g0 : Nat) : Int) + 1) - 1)] (mk (up2 (up2 (up2 h 6 g0 a1) 7 g0 a2) 1 12 (((g0 : Nat) : Int) + 1)) τ)
    refine a_aload_n (j := 2) dL_law_1105 rfl rfl (Nat.le_of_ble_eq_true rfl) ?_
    refine a_aload_n (j := 0) dL_law_1106 rfl rfl (Nat.le_of_ble_eq_true rfl) ?_
    refine a_iload_n (j := 3) dL_law_1107 rfl rfl ?_
    refine a_iconst dL_law_1108 ⟨by decide, by decide⟩ ?_
    refine a_iadd (z := (((i : Nat) : Int) + 1)) dL_law_1109 (w_ok (by omega) (by omega)) ?_
    refine a_sld (i + 1) dL_law_1110 (by omega) (by omega) ?_
    rw [ha1]
    refine a_aload_n (j := 0) dL_law_1111 rfl rfl (Nat.le_of_ble_eq_true rfl) ?_
    refine a_iload_n (j := 3) dL_law_1112 rfl rfl ?_
    refine a_iconst dL_law_1113 ⟨by decide, by decide⟩ ?_
    refine a_iadd (z := (((i : Nat) : Int) + 2)) dL_law_1114 (w_ok (by omega) (by omega)) ?_
    refine a_sld (i + 2) dL_law_1115 (by omega) (by omega) ?_
    rw [ha2]
    refine b_callV (d' := d - 1) (mc' := 0) (ms' := 0) (mc1 := mc) (ms1 := ms) (st := [vI ((((g0 : Nat) : Int) + 1) - 1)]) (b := 123) [vI a1, vI a2] dL_law_1116 mwX9_guest lkL_134 (by decide) rfl rc_X9 rfl (Nat.le_of_ble_eq_true rfl) (by omega) (by omega) (by omega) (c_X9_guest (v1 := (N 4)) (v2 := ((g0 : Nat) : Int)) (by omega)  ((up2_ne (by omega)).trans ((up2_ne (by omega)).trans ((up2_ne (by omega)).trans (congrFun hN _)))) ((up2_ne (by omega)).trans ((up2_ne (by omega)).trans ((up2_ne (by omega)).trans ((congrFun hN 8).trans hg0)))) (show 0 ≤ (N 4) ∧ (N 4) ≤ 6 by omega) (show 0 ≤ ((g0 : Nat) : Int) ∧ ((g0 : Nat) : Int) ≤ 10 by omega) (fun t2_1_3 t13_2_3 c31_4_3 => ?_) (fun t2_1_3 t13_2_3 c31_4_3 => ?_) (fun t2_1_3 t13_2_3 => ?_) (fun t2_1_3 => ?_))
    · have t2_1_3 : 0 ≤ a1 ∧ a1 < (N 4) := t2_1_3
      have t13_2_3 : 0 ≤ a2 ∧ a2 ≤ 1439 := t13_2_3
      have c31_4_3 : ¬ ((g0 : Nat) : Int) = 10 := c31_4_3
      show Aj γ mL_law d mc ms Post 1119 [(0, vK 0), (1, vA 0), (2, vA 123), (3, vI ((i : Nat) : Int))] [vI ((((g0 : Nat) : Int) + 1) - 1), vI ((((g0 : Nat) : Int) + 1) - 1)] (mk (up2 (up2 (up2 (up2 (up2 (up2 h 6 g0 a1) 7 g0 a2) 1 12 (((g0 : Nat) : Int) + 1)) 124 (Int.toNat (153 + (2 * ((g0 : Nat) : Int)))) a1) 124 (Int.toNat ((153 + (2 * ((g0 : Nat) : Int))) + 1)) a2) 124 8 (((g0 : Nat) : Int) + 1)) τ)
      refine a_icmp_eq (tgt := 1668) dL_law_1119 (by decide) (fun c1119_5 => ?_) (fun c1119_5 => ?_)
      · generalize hHH : (up2 (up2 (up2 (up2 (up2 (up2 h 6 g0 a1) 7 g0 a2) 1 12 (((g0 : Nat) : Int) + 1)) 124 (Int.toNat (153 + (2 * ((g0 : Nat) : Int)))) a1) 124 (Int.toNat ((153 + (2 * ((g0 : Nat) : Int))) + 1)) a2) 124 8 (((g0 : Nat) : Int) + 1)) = H
        have a1_ : ∀ k : Nat, k ≠ 12 → H 1 k = h 1 k := fun k q0_ => by rw [← hHH]; exact ((up2_ne (by omega)).trans ((up2_ne (by omega)).trans ((up2_ne (by omega)).trans ((up2_ne (by omega)).trans ((up2_ne (by omega)).trans ((up2_ne (by omega)).trans rfl))))))
        have a2_ : H 1 12 = (((g0 : Nat) : Int) + 1) := by rw [← hHH]; exact ((up2_ne (by omega)).trans ((up2_ne (by omega)).trans ((up2_ne (by omega)).trans (up2_hit (by omega) (by omega)))))
        have a3_ : H 6 g0 = a1 := by rw [← hHH]; exact ((up2_ne (by omega)).trans ((up2_ne (by omega)).trans ((up2_ne (by omega)).trans ((up2_ne (by omega)).trans ((up2_ne (by omega)).trans (up2_hit (by omega) (by omega)))))))
        have a4_ : ∀ k : Nat, k ≠ g0 → H 6 k = h 6 k := fun k q0_ => by rw [← hHH]; exact ((up2_ne (by omega)).trans ((up2_ne (by omega)).trans ((up2_ne (by omega)).trans ((up2_ne (by omega)).trans ((up2_ne (by omega)).trans ((up2_ne (by omega)).trans rfl))))))
        have a6_ : H 7 g0 = a2 := by rw [← hHH]; exact ((up2_ne (by omega)).trans ((up2_ne (by omega)).trans ((up2_ne (by omega)).trans ((up2_ne (by omega)).trans (up2_hit (by omega) (by omega))))))
        have a7_ : ∀ k : Nat, k ≠ g0 → H 7 k = h 7 k := fun k q0_ => by rw [← hHH]; exact ((up2_ne (by omega)).trans ((up2_ne (by omega)).trans ((up2_ne (by omega)).trans ((up2_ne (by omega)).trans ((up2_ne (by omega)).trans ((up2_ne (by omega)).trans rfl))))))
        have a5_ : ∀ c, 2 ≤ c → c < 32 → c ≠ 6 → c ≠ 7 → H c = h c := fun c q0_ q1_ q2_ q3_ => by rw [← hHH]; exact ((up2_row (by omega)).trans ((up2_row (by omega)).trans ((up2_row (by omega)).trans ((up2_row (by omega)).trans ((up2_row (by omega)).trans ((up2_row (by omega)).trans rfl))))))
        have n1_ : H 124 8 = (((g0 : Nat) : Int) + 1) := by rw [← hHH]; exact (up2_hit (by omega) (by omega))
        have n2_ : H 124 (153 + 2 * g0) = a1 := by rw [← hHH]; exact ((up2_ne (by omega)).trans ((up2_ne (by omega)).trans (up2_hit (by omega) (by omega))))
        have n4_ : H 124 (153 + 2 * g0 + 1) = a2 := by rw [← hHH]; exact ((up2_ne (by omega)).trans (up2_hit (by omega) (by omega)))
        have n3_ : ∀ k : Nat, k ≠ 8 → k ≠ 153 + 2 * g0 → k ≠ 153 + 2 * g0 + 1 → H 124 k = N k := fun k q0_ q1_ q2_ => by rw [← hHH]; exact ((up2_ne (by omega)).trans ((up2_ne (by omega)).trans ((up2_ne (by omega)).trans ((up2_ne (by omega)).trans ((up2_ne (by omega)).trans ((up2_ne (by omega)).trans (congrFun hN _)))))))
        have hW := W_guest (h := h) (h' := H) hX hR hg0 (by omega) (by omega) (by omega) a1_ a2_ a3_ a4_ a6_ a7_ a5_ n1_ n2_ n4_ n3_
        have gF : ∀ c, ¬ inW c → H c = h c := fun c q0_ => by unfold inW at q0_; rw [← hHH]; exact ((up2_row (by omega)).trans ((up2_row (by omega)).trans ((up2_row (by omega)).trans ((up2_row (by omega)).trans ((up2_row (by omega)).trans ((up2_row (by omega)).trans rfl))))))
        have g0 : ∀ k : Nat, k ≠ 8 → H 0 k = h 0 k := fun k q0_ => by rw [← hHH]; exact ((up2_ne (by omega)).trans ((up2_ne (by omega)).trans ((up2_ne (by omega)).trans ((up2_ne (by omega)).trans ((up2_ne (by omega)).trans ((up2_ne (by omega)).trans rfl))))))
        have e10 : H 1 0 = h 1 0 := by rw [← hHH]; exact ((up2_ne (by omega)).trans ((up2_ne (by omega)).trans ((up2_ne (by omega)).trans ((up2_ne (by omega)).trans ((up2_ne (by omega)).trans ((up2_ne (by omega)).trans rfl))))))
        have g3 : H 123 = h 123 := by rw [← hHH]; exact ((up2_row (by omega)).trans ((up2_row (by omega)).trans ((up2_row (by omega)).trans ((up2_row (by omega)).trans ((up2_row (by omega)).trans ((up2_row (by omega)).trans rfl))))))
        exact kE H (H 124) J (IV_up (by omega) (IV_n hI gF g0 e10 g3 rfl hW.2.2 hW.1 hW.2.1))
      · refine a_iconst dL_law_1122 ⟨by decide, by decide⟩ ?_
        exact a_zret dL_law_1123 rfl (by first | exact Or.inl rfl | exact Or.inr rfl | omega) (by exfalso; omega)
    · have t2_1_3 : 0 ≤ a1 ∧ a1 < (N 4) := t2_1_3
      have t13_2_3 : 0 ≤ a2 ∧ a2 ≤ 1439 := t13_2_3
      have c31_4_3 : ((g0 : Nat) : Int) = 10 := c31_4_3
      show Aj γ mL_law d mc ms Post 1119 [(0, vK 0), (1, vA 0), (2, vA 123), (3, vI ((i : Nat) : Int))] [vI (-1000000003), vI ((((g0 : Nat) : Int) + 1) - 1)] (mk (up2 (up2 (up2 h 6 g0 a1) 7 g0 a2) 1 12 (((g0 : Nat) : Int) + 1)) τ)
      refine a_icmp_eq (tgt := 1668) dL_law_1119 (by decide) (fun c1119_6 => ?_) (fun c1119_6 => ?_)
      · exfalso
        omega
      · refine a_iconst dL_law_1122 ⟨by decide, by decide⟩ ?_
        exact a_zret dL_law_1123 rfl (by first | exact Or.inl rfl | exact Or.inr rfl | omega) (by exfalso; omega)
    · exfalso
      omega
    · exfalso
      omega
  · have t5_1_1 : 0 ≤ a1 ∧ a1 < (N 4) := t5_1_1
    have t12_2_1 : 0 ≤ a2 ∧ a2 ≤ 1439 := t12_2_1
    have c30_3_1 : ¬ ((g0 : Nat) : Int) < 10 := c30_3_1
    show Aj γ mL_law d mc ms Post 1105 [(0, vK 0), (1, vA 0), (2, vA 123), (3, vI ((i : Nat) : Int))] [vI (-1000000003)] (mk h τ)
    refine a_aload_n (j := 2) dL_law_1105 rfl rfl (Nat.le_of_ble_eq_true rfl) ?_
    refine a_aload_n (j := 0) dL_law_1106 rfl rfl (Nat.le_of_ble_eq_true rfl) ?_
    refine a_iload_n (j := 3) dL_law_1107 rfl rfl ?_
    refine a_iconst dL_law_1108 ⟨by decide, by decide⟩ ?_
    refine a_iadd (z := (((i : Nat) : Int) + 1)) dL_law_1109 (w_ok (by omega) (by omega)) ?_
    refine a_sld (i + 1) dL_law_1110 (by omega) (by omega) ?_
    rw [ha1]
    refine a_aload_n (j := 0) dL_law_1111 rfl rfl (Nat.le_of_ble_eq_true rfl) ?_
    refine a_iload_n (j := 3) dL_law_1112 rfl rfl ?_
    refine a_iconst dL_law_1113 ⟨by decide, by decide⟩ ?_
    refine a_iadd (z := (((i : Nat) : Int) + 2)) dL_law_1114 (w_ok (by omega) (by omega)) ?_
    refine a_sld (i + 2) dL_law_1115 (by omega) (by omega) ?_
    rw [ha2]
    refine b_callV (d' := d - 1) (mc' := 0) (ms' := 0) (mc1 := mc) (ms1 := ms) (st := [vI (-1000000003)]) (b := 123) [vI a1, vI a2] dL_law_1116 mwX9_guest lkL_134 (by decide) rfl rc_X9 rfl (Nat.le_of_ble_eq_true rfl) (by omega) (by omega) (by omega) (c_X9_guest (v1 := (N 4)) (v2 := ((g0 : Nat) : Int)) (by omega)  (congrFun hN _) ((congrFun hN 8).trans hg0) (show 0 ≤ (N 4) ∧ (N 4) ≤ 6 by omega) (show 0 ≤ ((g0 : Nat) : Int) ∧ ((g0 : Nat) : Int) ≤ 10 by omega) (fun t2_1_7 t13_2_7 c31_4_7 => ?_) (fun t2_1_7 t13_2_7 c31_4_7 => ?_) (fun t2_1_7 t13_2_7 => ?_) (fun t2_1_7 => ?_))
    · have t2_1_7 : 0 ≤ a1 ∧ a1 < (N 4) := t2_1_7
      have t13_2_7 : 0 ≤ a2 ∧ a2 ≤ 1439 := t13_2_7
      have c31_4_7 : ¬ ((g0 : Nat) : Int) = 10 := c31_4_7
      show Aj γ mL_law d mc ms Post 1119 [(0, vK 0), (1, vA 0), (2, vA 123), (3, vI ((i : Nat) : Int))] [vI ((((g0 : Nat) : Int) + 1) - 1), vI (-1000000003)] (mk (up2 (up2 (up2 h 124 (Int.toNat (153 + (2 * ((g0 : Nat) : Int)))) a1) 124 (Int.toNat ((153 + (2 * ((g0 : Nat) : Int))) + 1)) a2) 124 8 (((g0 : Nat) : Int) + 1)) τ)
      refine a_icmp_eq (tgt := 1668) dL_law_1119 (by decide) (fun c1119_9 => ?_) (fun c1119_9 => ?_)
      · exfalso
        omega
      · refine a_iconst dL_law_1122 ⟨by decide, by decide⟩ ?_
        exact a_zret dL_law_1123 rfl (by first | exact Or.inl rfl | exact Or.inr rfl | omega) (by exfalso; omega)
    · have t2_1_7 : 0 ≤ a1 ∧ a1 < (N 4) := t2_1_7
      have t13_2_7 : 0 ≤ a2 ∧ a2 ≤ 1439 := t13_2_7
      have c31_4_7 : ((g0 : Nat) : Int) = 10 := c31_4_7
      show Aj γ mL_law d mc ms Post 1119 [(0, vK 0), (1, vA 0), (2, vA 123), (3, vI ((i : Nat) : Int))] [vI (-1000000003), vI (-1000000003)] (mk h τ)
      refine a_icmp_eq (tgt := 1668) dL_law_1119 (by decide) (fun _ => ?_) (fun c => absurd c (by decide))
      exact kE h N J (IV_up (by omega) hI)
    · exfalso
      omega
    · exfalso
      omega
  · have t5_1_1 : 0 ≤ a1 ∧ a1 < (N 4) := t5_1_1
    have t12_2_1 : ¬ (0 ≤ a2 ∧ a2 ≤ 1439) := t12_2_1
    show Aj γ mL_law d mc ms Post 1105 [(0, vK 0), (1, vA 0), (2, vA 123), (3, vI ((i : Nat) : Int))] [vI (-1000000001)] (mk h τ)
    refine a_aload_n (j := 2) dL_law_1105 rfl rfl (Nat.le_of_ble_eq_true rfl) ?_
    refine a_aload_n (j := 0) dL_law_1106 rfl rfl (Nat.le_of_ble_eq_true rfl) ?_
    refine a_iload_n (j := 3) dL_law_1107 rfl rfl ?_
    refine a_iconst dL_law_1108 ⟨by decide, by decide⟩ ?_
    refine a_iadd (z := (((i : Nat) : Int) + 1)) dL_law_1109 (w_ok (by omega) (by omega)) ?_
    refine a_sld (i + 1) dL_law_1110 (by omega) (by omega) ?_
    rw [ha1]
    refine a_aload_n (j := 0) dL_law_1111 rfl rfl (Nat.le_of_ble_eq_true rfl) ?_
    refine a_iload_n (j := 3) dL_law_1112 rfl rfl ?_
    refine a_iconst dL_law_1113 ⟨by decide, by decide⟩ ?_
    refine a_iadd (z := (((i : Nat) : Int) + 2)) dL_law_1114 (w_ok (by omega) (by omega)) ?_
    refine a_sld (i + 2) dL_law_1115 (by omega) (by omega) ?_
    rw [ha2]
    refine b_callV (d' := d - 1) (mc' := 0) (ms' := 0) (mc1 := mc) (ms1 := ms) (st := [vI (-1000000001)]) (b := 123) [vI a1, vI a2] dL_law_1116 mwX9_guest lkL_134 (by decide) rfl rc_X9 rfl (Nat.le_of_ble_eq_true rfl) (by omega) (by omega) (by omega) (c_X9_guest (v1 := (N 4)) (v2 := ((g0 : Nat) : Int)) (by omega)  (congrFun hN _) ((congrFun hN 8).trans hg0) (show 0 ≤ (N 4) ∧ (N 4) ≤ 6 by omega) (show 0 ≤ ((g0 : Nat) : Int) ∧ ((g0 : Nat) : Int) ≤ 10 by omega) (fun t2_1_10 t13_2_10 c31_4_10 => ?_) (fun t2_1_10 t13_2_10 c31_4_10 => ?_) (fun t2_1_10 t13_2_10 => ?_) (fun t2_1_10 => ?_))
    · exfalso
      omega
    · exfalso
      omega
    · have t2_1_10 : 0 ≤ a1 ∧ a1 < (N 4) := t2_1_10
      have t13_2_10 : ¬ (0 ≤ a2 ∧ a2 ≤ 1439) := t13_2_10
      show Aj γ mL_law d mc ms Post 1119 [(0, vK 0), (1, vA 0), (2, vA 123), (3, vI ((i : Nat) : Int))] [vI (-1000000001), vI (-1000000001)] (mk h τ)
      refine a_icmp_eq (tgt := 1668) dL_law_1119 (by decide) (fun _ => ?_) (fun c => absurd c (by decide))
      exact kE h N J (IV_up (by omega) hI)
    · exfalso
      omega
  · have t5_1_1 : ¬ (0 ≤ a1 ∧ a1 < (N 4)) := t5_1_1
    show Aj γ mL_law d mc ms Post 1105 [(0, vK 0), (1, vA 0), (2, vA 123), (3, vI ((i : Nat) : Int))] [vI (-1000000001)] (mk h τ)
    refine a_aload_n (j := 2) dL_law_1105 rfl rfl (Nat.le_of_ble_eq_true rfl) ?_
    refine a_aload_n (j := 0) dL_law_1106 rfl rfl (Nat.le_of_ble_eq_true rfl) ?_
    refine a_iload_n (j := 3) dL_law_1107 rfl rfl ?_
    refine a_iconst dL_law_1108 ⟨by decide, by decide⟩ ?_
    refine a_iadd (z := (((i : Nat) : Int) + 1)) dL_law_1109 (w_ok (by omega) (by omega)) ?_
    refine a_sld (i + 1) dL_law_1110 (by omega) (by omega) ?_
    rw [ha1]
    refine a_aload_n (j := 0) dL_law_1111 rfl rfl (Nat.le_of_ble_eq_true rfl) ?_
    refine a_iload_n (j := 3) dL_law_1112 rfl rfl ?_
    refine a_iconst dL_law_1113 ⟨by decide, by decide⟩ ?_
    refine a_iadd (z := (((i : Nat) : Int) + 2)) dL_law_1114 (w_ok (by omega) (by omega)) ?_
    refine a_sld (i + 2) dL_law_1115 (by omega) (by omega) ?_
    rw [ha2]
    refine b_callV (d' := d - 1) (mc' := 0) (ms' := 0) (mc1 := mc) (ms1 := ms) (st := [vI (-1000000001)]) (b := 123) [vI a1, vI a2] dL_law_1116 mwX9_guest lkL_134 (by decide) rfl rc_X9 rfl (Nat.le_of_ble_eq_true rfl) (by omega) (by omega) (by omega) (c_X9_guest (v1 := (N 4)) (v2 := ((g0 : Nat) : Int)) (by omega)  (congrFun hN _) ((congrFun hN 8).trans hg0) (show 0 ≤ (N 4) ∧ (N 4) ≤ 6 by omega) (show 0 ≤ ((g0 : Nat) : Int) ∧ ((g0 : Nat) : Int) ≤ 10 by omega) (fun t2_1_12 t13_2_12 c31_4_12 => ?_) (fun t2_1_12 t13_2_12 c31_4_12 => ?_) (fun t2_1_12 t13_2_12 => ?_) (fun t2_1_12 => ?_))
    · exfalso
      omega
    · exfalso
      omega
    · exfalso
      omega
    · have t2_1_12 : ¬ (0 ≤ a1 ∧ a1 < (N 4)) := t2_1_12
      show Aj γ mL_law d mc ms Post 1119 [(0, vK 0), (1, vA 0), (2, vA 123), (3, vI ((i : Nat) : Int))] [vI (-1000000001), vI (-1000000001)] (mk h τ)
      refine a_icmp_eq (tgt := 1668) dL_law_1119 (by decide) (fun _ => ?_) (fun c => absurd c (by decide))
      exact kE h N J (IV_up (by omega) hI)
