set_option maxHeartbeats 16000000 in
theorem s_item {γ : GT} {d mc ms n i : Nat} {N J : Nat → Int} {h : Nat → Nat → Int} {τ : List AC} {Post : Option AV → List AC → Prop} (hd : 30 ≤ d) (hn : n < 64) (hi : i + 5 < g_L γ) (hL : g_L γ ≤ 384) (hI : IVp n h τ N J) (kE : ∀ h' N' J', IVp (n + 1) h' τ N' J' → Aj γ mL_law d mc ms Post 1668 [(0, vK 0), (1, vA 0), (2, vA 123), (3, vI ((i : Nat) : Int))] [] (mk h' τ)) : Aj γ mL_law d mc ms Post 1507 [(0, vK 0), (1, vA 0), (2, vA 123), (3, vI ((i : Nat) : Int))] [] (mk h τ) := by
  obtain ⟨hN, hJ, hX, hR, hk, hkK, hC, hRC, hst, hO⟩ := id hI
  have hsc := hX.1.1
  have hs1 := hsc.1
  have hs2 := hsc.2.1
  have hs3 := hsc.2.2.1
  have hs4 := hsc.2.2.2.1
  have hs5 := hsc.2.2.2.2
  have hs6 := hX.1.2.2.2.1
  have hx7 := hX.2.1
  have hx8 := hX.2.2.2.1
  obtain ⟨a1, ha1⟩ : ∃ z, (g_x γ (i + 1)).toInt = z := ⟨_, rfl⟩
  have ra1 : inI a1 := ha1 ▸ i32_rng _
  unfold inI at ra1
  obtain ⟨a2, ha2⟩ : ∃ z, (g_x γ (i + 2)).toInt = z := ⟨_, rfl⟩
  have ra2 : inI a2 := ha2 ▸ i32_rng _
  unfold inI at ra2
  obtain ⟨s0, hs0⟩ : ∃ z : Nat, z = Int.toNat a1 := ⟨_, rfl⟩
  rcases (show ¬ (0 ≤ a1 ∧ a1 ≤ 4) ∨ ((0 ≤ a1 ∧ a1 ≤ 4) ∧ h 148 s0 = 2 ∧ (0 ≤ a2 ∧ a2 < 24)) ∨ ((0 ≤ a1 ∧ a1 ≤ 4) ∧ h 148 s0 = 2 ∧ ¬ (0 ≤ a2 ∧ a2 < 24)) ∨ ((0 ≤ a1 ∧ a1 ≤ 4) ∧ ¬ h 148 s0 = 2) by omega) with hin | hin | hin | hin
  · skip
    refine a_aload_n (j := 1) dL_law_1507 rfl rfl (Nat.le_of_ble_eq_true rfl) ?_
    refine a_aload_n (j := 0) dL_law_1508 rfl rfl (Nat.le_of_ble_eq_true rfl) ?_
    refine a_iload_n (j := 3) dL_law_1509 rfl rfl ?_
    refine a_iconst dL_law_1510 ⟨by decide, by decide⟩ ?_
    refine a_iadd (z := (((i : Nat) : Int) + 1)) dL_law_1511 (w_ok (by omega) (by omega)) ?_
    refine a_sld (i + 1) dL_law_1512 (by omega) (by omega) ?_
    rw [ha1]
    refine a_aload_n (j := 0) dL_law_1513 rfl rfl (Nat.le_of_ble_eq_true rfl) ?_
    refine a_iload_n (j := 3) dL_law_1514 rfl rfl ?_
    refine a_iconst dL_law_1515 ⟨by decide, by decide⟩ ?_
    refine a_iadd (z := (((i : Nat) : Int) + 2)) dL_law_1516 (w_ok (by omega) (by omega)) ?_
    refine a_sld (i + 2) dL_law_1517 (by omega) (by omega) ?_
    rw [ha2]
    refine b_callV (d' := d - 1) (mc' := 0) (ms' := 0) (mc1 := mc) (ms1 := ms) (st := []) (b := 0) [vI a1, vI a2] dL_law_1518 mwX8_item lkL_180 (by decide) rfl rc_X8 rfl (Nat.le_of_ble_eq_true rfl) (by omega) (by omega) (by omega) (c_X8_item (v1 := (h ((98 + 5 * (Int.toNat a1)) + 3) 1)) (v2 := (h (98 + 5 * (Int.toNat a1)) 0)) (v3 := (h (((98 + 5 * (Int.toNat a1)) + 3) + 1) (Int.toNat a2))) (by omega)  rfl rfl rfl (show Im a1 5 (0 ≤ (h ((98 + 5 * (Int.toNat a1)) + 3) 1) ∧ (h ((98 + 5 * (Int.toNat a1)) + 3) 1) ≤ 24) from fun _ _ => (by omega)) (fun t1_1_1 c21_2_1 c33_3_1 t44_4_1 c69_6_1 => ?_) (fun t1_1_1 c21_2_1 c33_3_1 t44_4_1 c69_6_1 => ?_) (fun t1_1_1 c21_2_1 c33_3_1 t44_4_1 => ?_) (fun t1_1_1 c21_2_1 c33_3_1 => ?_) (fun t1_1_1 c21_2_1 => ?_) (fun t1_1_1 => ?_))
    · exfalso
      omega
    · exfalso
      omega
    · exfalso
      omega
    · exfalso
      omega
    · exfalso
      omega
    · have t1_1_1 : ¬ (0 ≤ a1 ∧ a1 ≤ 4) := t1_1_1
      show Aj γ mL_law d mc ms Post 1521 [(0, vK 0), (1, vA 0), (2, vA 123), (3, vI ((i : Nat) : Int))] [vI (-1000000001)] (mk h τ)
      refine a_aload_n (j := 2) dL_law_1521 rfl rfl (Nat.le_of_ble_eq_true rfl) ?_
      refine a_aload_n (j := 0) dL_law_1522 rfl rfl (Nat.le_of_ble_eq_true rfl) ?_
      refine a_iload_n (j := 3) dL_law_1523 rfl rfl ?_
      refine a_iconst dL_law_1524 ⟨by decide, by decide⟩ ?_
      refine a_iadd (z := (((i : Nat) : Int) + 1)) dL_law_1525 (w_ok (by omega) (by omega)) ?_
      refine a_sld (i + 1) dL_law_1526 (by omega) (by omega) ?_
      rw [ha1]
      refine a_aload_n (j := 0) dL_law_1527 rfl rfl (Nat.le_of_ble_eq_true rfl) ?_
      refine a_iload_n (j := 3) dL_law_1528 rfl rfl ?_
      refine a_iconst dL_law_1529 ⟨by decide, by decide⟩ ?_
      refine a_iadd (z := (((i : Nat) : Int) + 2)) dL_law_1530 (w_ok (by omega) (by omega)) ?_
      refine a_sld (i + 2) dL_law_1531 (by omega) (by omega) ?_
      rw [ha2]
      refine b_callV (d' := d - 1) (mc' := 0) (ms' := 0) (mc1 := mc) (ms1 := ms) (st := [vI (-1000000001)]) (b := 123) [vI a1, vI a2] dL_law_1532 mwX9_item lkL_183 (by decide) rfl rc_X9 rfl (Nat.le_of_ble_eq_true rfl) (by omega) (by omega) (by omega) (c_X9_item (v1 := (h 148 (Int.toNat a1))) (v2 := (h 149 (Int.toNat a1))) (v3 := (h 151 (Int.toNat ((24 * a1) + a2)))) (by omega)  rfl rfl rfl (show Ip (0 ≤ a1 ∧ a1 ≤ 4 ∧ (h 148 (Int.toNat a1)) = 2) (0 ≤ (h 149 (Int.toNat a1)) ∧ (h 149 (Int.toNat a1)) ≤ 24) from fun _ => (by omega)) (fun t1_1_3 c16_3_3 c30_5_3 t46_7_3 c71_9_3 => ?_) (fun t1_1_3 c16_3_3 c30_5_3 t46_7_3 c71_9_3 => ?_) (fun t1_1_3 c16_3_3 c30_5_3 t46_7_3 => ?_) (fun t1_1_3 c16_3_3 c30_5_3 => ?_) (fun t1_1_3 c16_3_3 => ?_) (fun t1_1_3 => ?_))
      · exfalso
        omega
      · exfalso
        omega
      · exfalso
        omega
      · exfalso
        omega
      · exfalso
        omega
      · have t1_1_3 : ¬ (0 ≤ a1 ∧ a1 ≤ 4) := t1_1_3
        show Aj γ mL_law d mc ms Post 1535 [(0, vK 0), (1, vA 0), (2, vA 123), (3, vI ((i : Nat) : Int))] [vI (-1000000001), vI (-1000000001)] (mk h τ)
        refine a_icmp_eq (tgt := 1668) dL_law_1535 (by decide) (fun _ => ?_) (fun c => absurd c (by decide))
        exact kE h N J (IV_up (by omega) hI)
  · obtain rfl : a1 = ((s0 : Nat) : Int) := by omega
    obtain ⟨l0, l1, l2, l3, l4, l5⟩ := hO.2.2.1 s0 (by omega)
    obtain ⟨lt1, lt2, lt3⟩ := l3 hin.2.1
    obtain ⟨p0, rfl⟩ : ∃ z : Nat, a2 = (z : Int) := ⟨Int.toNat a2, by omega⟩
    refine a_aload_n (j := 1) dL_law_1507 rfl rfl (Nat.le_of_ble_eq_true rfl) ?_
    refine a_aload_n (j := 0) dL_law_1508 rfl rfl (Nat.le_of_ble_eq_true rfl) ?_
    refine a_iload_n (j := 3) dL_law_1509 rfl rfl ?_
    refine a_iconst dL_law_1510 ⟨by decide, by decide⟩ ?_
    refine a_iadd (z := (((i : Nat) : Int) + 1)) dL_law_1511 (w_ok (by omega) (by omega)) ?_
    refine a_sld (i + 1) dL_law_1512 (by omega) (by omega) ?_
    rw [ha1]
    refine a_aload_n (j := 0) dL_law_1513 rfl rfl (Nat.le_of_ble_eq_true rfl) ?_
    refine a_iload_n (j := 3) dL_law_1514 rfl rfl ?_
    refine a_iconst dL_law_1515 ⟨by decide, by decide⟩ ?_
    refine a_iadd (z := (((i : Nat) : Int) + 2)) dL_law_1516 (w_ok (by omega) (by omega)) ?_
    refine a_sld (i + 2) dL_law_1517 (by omega) (by omega) ?_
    rw [ha2]
    refine b_callV (d' := d - 1) (mc' := 0) (ms' := 0) (mc1 := mc) (ms1 := ms) (st := []) (b := 0) [vI ((s0 : Nat) : Int), vI ((p0 : Nat) : Int)] dL_law_1518 mwX8_item lkL_180 (by decide) rfl rc_X8 rfl (Nat.le_of_ble_eq_true rfl) (by omega) (by omega) (by omega) (c_X8_item (v1 := (h 149 s0)) (v2 := (h 148 s0)) (v3 := (h 151 (24 * s0 + p0))) (by omega)  lt1 l0 (lt3 p0 (by omega)) (show Im ((s0 : Nat) : Int) 5 (0 ≤ (h 149 s0) ∧ (h 149 s0) ≤ 24) from fun _ _ => (by omega)) (fun t1_1_1 c21_2_1 c33_3_1 t44_4_1 c69_6_1 => ?_) (fun t1_1_1 c21_2_1 c33_3_1 t44_4_1 c69_6_1 => ?_) (fun t1_1_1 c21_2_1 c33_3_1 t44_4_1 => ?_) (fun t1_1_1 c21_2_1 c33_3_1 => ?_) (fun t1_1_1 c21_2_1 => ?_) (fun t1_1_1 => ?_))
    · have t1_1_1 : 0 ≤ ((s0 : Nat) : Int) ∧ ((s0 : Nat) : Int) ≤ 4 := t1_1_1
      have c21_2_1 : ¬ (h 148 s0) = 0 := c21_2_1
      have c33_3_1 : (h 148 s0) = 2 := c33_3_1
      have t44_4_1 : 0 ≤ ((p0 : Nat) : Int) ∧ ((p0 : Nat) : Int) < (h 149 s0) := t44_4_1
      have c69_6_1 : ¬ (h 151 (24 * s0 + p0)) = (-1000000005) := c69_6_1
      show Aj γ mL_law d mc ms Post 1521 [(0, vK 0), (1, vA 0), (2, vA 123), (3, vI ((i : Nat) : Int))] [vI (h 151 (24 * s0 + p0))] (mk h τ)
      refine a_aload_n (j := 2) dL_law_1521 rfl rfl (Nat.le_of_ble_eq_true rfl) ?_
      refine a_aload_n (j := 0) dL_law_1522 rfl rfl (Nat.le_of_ble_eq_true rfl) ?_
      refine a_iload_n (j := 3) dL_law_1523 rfl rfl ?_
      refine a_iconst dL_law_1524 ⟨by decide, by decide⟩ ?_
      refine a_iadd (z := (((i : Nat) : Int) + 1)) dL_law_1525 (w_ok (by omega) (by omega)) ?_
      refine a_sld (i + 1) dL_law_1526 (by omega) (by omega) ?_
      rw [ha1]
      refine a_aload_n (j := 0) dL_law_1527 rfl rfl (Nat.le_of_ble_eq_true rfl) ?_
      refine a_iload_n (j := 3) dL_law_1528 rfl rfl ?_
      refine a_iconst dL_law_1529 ⟨by decide, by decide⟩ ?_
      refine a_iadd (z := (((i : Nat) : Int) + 2)) dL_law_1530 (w_ok (by omega) (by omega)) ?_
      refine a_sld (i + 2) dL_law_1531 (by omega) (by omega) ?_
      rw [ha2]
      refine b_callV (d' := d - 1) (mc' := 0) (ms' := 0) (mc1 := mc) (ms1 := ms) (st := [vI (h 151 (24 * s0 + p0))]) (b := 123) [vI ((s0 : Nat) : Int), vI ((p0 : Nat) : Int)] dL_law_1532 mwX9_item lkL_183 (by decide) rfl rc_X9 rfl (Nat.le_of_ble_eq_true rfl) (by omega) (by omega) (by omega) (c_X9_item (v1 := (h 148 s0)) (v2 := (h 149 s0)) (v3 := (h 151 (24 * s0 + p0))) (by omega)  rfl rfl (congrArg (h 151) (show (Int.toNat ((24 * ((s0 : Nat) : Int)) + ((p0 : Nat) : Int))) = (24 * s0 + p0) by omega)) (show Ip (0 ≤ ((s0 : Nat) : Int) ∧ ((s0 : Nat) : Int) ≤ 4 ∧ (h 148 s0) = 2) (0 ≤ (h 149 s0) ∧ (h 149 s0) ≤ 24) from fun _ => (by omega)) (fun t1_1_3 c16_3_3 c30_5_3 t46_7_3 c71_9_3 => ?_) (fun t1_1_3 c16_3_3 c30_5_3 t46_7_3 c71_9_3 => ?_) (fun t1_1_3 c16_3_3 c30_5_3 t46_7_3 => ?_) (fun t1_1_3 c16_3_3 c30_5_3 => ?_) (fun t1_1_3 c16_3_3 => ?_) (fun t1_1_3 => ?_))
      · have t1_1_3 : 0 ≤ ((s0 : Nat) : Int) ∧ ((s0 : Nat) : Int) ≤ 4 := t1_1_3
        have c16_3_3 : ¬ (h 148 s0) = 0 := c16_3_3
        have c30_5_3 : (h 148 s0) = 2 := c30_5_3
        have t46_7_3 : 0 ≤ ((p0 : Nat) : Int) ∧ ((p0 : Nat) : Int) ≤ ((h 149 s0) - 1) := t46_7_3
        have c71_9_3 : ¬ (h 151 (24 * s0 + p0)) = (-1000000005) := c71_9_3
        show Aj γ mL_law d mc ms Post 1535 [(0, vK 0), (1, vA 0), (2, vA 123), (3, vI ((i : Nat) : Int))] [vI (h 151 (24 * s0 + p0)), vI (h 151 (24 * s0 + p0))] (mk h τ)
        refine a_icmp_eq (tgt := 1668) dL_law_1535 (by decide) (fun c1535_5 => ?_) (fun c1535_5 => ?_)
        · exact kE h N J (IV_up (by omega) hI)
        · refine a_iconst dL_law_1538 ⟨by decide, by decide⟩ ?_
          exact a_zret dL_law_1539 rfl (by first | exact Or.inl rfl | exact Or.inr rfl | omega) (by exfalso; omega)
      · exfalso
        omega
      · have t1_1_3 : 0 ≤ ((s0 : Nat) : Int) ∧ ((s0 : Nat) : Int) ≤ 4 := t1_1_3
        have c16_3_3 : ¬ (h 148 s0) = 0 := c16_3_3
        have c30_5_3 : (h 148 s0) = 2 := c30_5_3
        have t46_7_3 : ¬ (0 ≤ ((p0 : Nat) : Int) ∧ ((p0 : Nat) : Int) ≤ ((h 149 s0) - 1)) := t46_7_3
        show Aj γ mL_law d mc ms Post 1535 [(0, vK 0), (1, vA 0), (2, vA 123), (3, vI ((i : Nat) : Int))] [vI (-1000000013), vI (h 151 (24 * s0 + p0))] (mk h τ)
        refine a_icmp_eq (tgt := 1668) dL_law_1535 (by decide) (fun c1535_6 => ?_) (fun c1535_6 => ?_)
        · exact kE h N J (IV_up (by omega) hI)
        · refine a_iconst dL_law_1538 ⟨by decide, by decide⟩ ?_
          exact a_zret dL_law_1539 rfl (by first | exact Or.inl rfl | exact Or.inr rfl | omega) (by exfalso; omega)
      · exfalso
        omega
      · exfalso
        omega
      · exfalso
        omega
    · have t1_1_1 : 0 ≤ ((s0 : Nat) : Int) ∧ ((s0 : Nat) : Int) ≤ 4 := t1_1_1
      have c21_2_1 : ¬ (h 148 s0) = 0 := c21_2_1
      have c33_3_1 : (h 148 s0) = 2 := c33_3_1
      have t44_4_1 : 0 ≤ ((p0 : Nat) : Int) ∧ ((p0 : Nat) : Int) < (h 149 s0) := t44_4_1
      have c69_6_1 : (h 151 (24 * s0 + p0)) = (-1000000005) := c69_6_1
      show Aj γ mL_law d mc ms Post 1521 [(0, vK 0), (1, vA 0), (2, vA 123), (3, vI ((i : Nat) : Int))] [vI (-1000000012)] (mk h τ)
      refine a_aload_n (j := 2) dL_law_1521 rfl rfl (Nat.le_of_ble_eq_true rfl) ?_
      refine a_aload_n (j := 0) dL_law_1522 rfl rfl (Nat.le_of_ble_eq_true rfl) ?_
      refine a_iload_n (j := 3) dL_law_1523 rfl rfl ?_
      refine a_iconst dL_law_1524 ⟨by decide, by decide⟩ ?_
      refine a_iadd (z := (((i : Nat) : Int) + 1)) dL_law_1525 (w_ok (by omega) (by omega)) ?_
      refine a_sld (i + 1) dL_law_1526 (by omega) (by omega) ?_
      rw [ha1]
      refine a_aload_n (j := 0) dL_law_1527 rfl rfl (Nat.le_of_ble_eq_true rfl) ?_
      refine a_iload_n (j := 3) dL_law_1528 rfl rfl ?_
      refine a_iconst dL_law_1529 ⟨by decide, by decide⟩ ?_
      refine a_iadd (z := (((i : Nat) : Int) + 2)) dL_law_1530 (w_ok (by omega) (by omega)) ?_
      refine a_sld (i + 2) dL_law_1531 (by omega) (by omega) ?_
      rw [ha2]
      refine b_callV (d' := d - 1) (mc' := 0) (ms' := 0) (mc1 := mc) (ms1 := ms) (st := [vI (-1000000012)]) (b := 123) [vI ((s0 : Nat) : Int), vI ((p0 : Nat) : Int)] dL_law_1532 mwX9_item lkL_183 (by decide) rfl rc_X9 rfl (Nat.le_of_ble_eq_true rfl) (by omega) (by omega) (by omega) (c_X9_item (v1 := (h 148 s0)) (v2 := (h 149 s0)) (v3 := (h 151 (24 * s0 + p0))) (by omega)  rfl rfl (congrArg (h 151) (show (Int.toNat ((24 * ((s0 : Nat) : Int)) + ((p0 : Nat) : Int))) = (24 * s0 + p0) by omega)) (show Ip (0 ≤ ((s0 : Nat) : Int) ∧ ((s0 : Nat) : Int) ≤ 4 ∧ (h 148 s0) = 2) (0 ≤ (h 149 s0) ∧ (h 149 s0) ≤ 24) from fun _ => (by omega)) (fun t1_1_7 c16_3_7 c30_5_7 t46_7_7 c71_9_7 => ?_) (fun t1_1_7 c16_3_7 c30_5_7 t46_7_7 c71_9_7 => ?_) (fun t1_1_7 c16_3_7 c30_5_7 t46_7_7 => ?_) (fun t1_1_7 c16_3_7 c30_5_7 => ?_) (fun t1_1_7 c16_3_7 => ?_) (fun t1_1_7 => ?_))
      · exfalso
        omega
      · have t1_1_7 : 0 ≤ ((s0 : Nat) : Int) ∧ ((s0 : Nat) : Int) ≤ 4 := t1_1_7
        have c16_3_7 : ¬ (h 148 s0) = 0 := c16_3_7
        have c30_5_7 : (h 148 s0) = 2 := c30_5_7
        have t46_7_7 : 0 ≤ ((p0 : Nat) : Int) ∧ ((p0 : Nat) : Int) ≤ ((h 149 s0) - 1) := t46_7_7
        have c71_9_7 : (h 151 (24 * s0 + p0)) = (-1000000005) := c71_9_7
        show Aj γ mL_law d mc ms Post 1535 [(0, vK 0), (1, vA 0), (2, vA 123), (3, vI ((i : Nat) : Int))] [vI (-1000000012), vI (-1000000012)] (mk h τ)
        refine a_icmp_eq (tgt := 1668) dL_law_1535 (by decide) (fun _ => ?_) (fun c => absurd c (by decide))
        exact kE h N J (IV_up (by omega) hI)
      · have t1_1_7 : 0 ≤ ((s0 : Nat) : Int) ∧ ((s0 : Nat) : Int) ≤ 4 := t1_1_7
        have c16_3_7 : ¬ (h 148 s0) = 0 := c16_3_7
        have c30_5_7 : (h 148 s0) = 2 := c30_5_7
        have t46_7_7 : ¬ (0 ≤ ((p0 : Nat) : Int) ∧ ((p0 : Nat) : Int) ≤ ((h 149 s0) - 1)) := t46_7_7
        show Aj γ mL_law d mc ms Post 1535 [(0, vK 0), (1, vA 0), (2, vA 123), (3, vI ((i : Nat) : Int))] [vI (-1000000013), vI (-1000000012)] (mk h τ)
        refine a_icmp_eq (tgt := 1668) dL_law_1535 (by decide) (fun c => absurd c (by decide)) (fun _ => ?_)
        refine a_iconst dL_law_1538 ⟨by decide, by decide⟩ ?_
        exact a_zret dL_law_1539 rfl (by first | exact Or.inl rfl | exact Or.inr rfl | omega) (by exfalso; omega)
      · exfalso
        omega
      · exfalso
        omega
      · exfalso
        omega
    · have t1_1_1 : 0 ≤ ((s0 : Nat) : Int) ∧ ((s0 : Nat) : Int) ≤ 4 := t1_1_1
      have c21_2_1 : ¬ (h 148 s0) = 0 := c21_2_1
      have c33_3_1 : (h 148 s0) = 2 := c33_3_1
      have t44_4_1 : ¬ (0 ≤ ((p0 : Nat) : Int) ∧ ((p0 : Nat) : Int) < (h 149 s0)) := t44_4_1
      show Aj γ mL_law d mc ms Post 1521 [(0, vK 0), (1, vA 0), (2, vA 123), (3, vI ((i : Nat) : Int))] [vI (-1000000013)] (mk h τ)
      refine a_aload_n (j := 2) dL_law_1521 rfl rfl (Nat.le_of_ble_eq_true rfl) ?_
      refine a_aload_n (j := 0) dL_law_1522 rfl rfl (Nat.le_of_ble_eq_true rfl) ?_
      refine a_iload_n (j := 3) dL_law_1523 rfl rfl ?_
      refine a_iconst dL_law_1524 ⟨by decide, by decide⟩ ?_
      refine a_iadd (z := (((i : Nat) : Int) + 1)) dL_law_1525 (w_ok (by omega) (by omega)) ?_
      refine a_sld (i + 1) dL_law_1526 (by omega) (by omega) ?_
      rw [ha1]
      refine a_aload_n (j := 0) dL_law_1527 rfl rfl (Nat.le_of_ble_eq_true rfl) ?_
      refine a_iload_n (j := 3) dL_law_1528 rfl rfl ?_
      refine a_iconst dL_law_1529 ⟨by decide, by decide⟩ ?_
      refine a_iadd (z := (((i : Nat) : Int) + 2)) dL_law_1530 (w_ok (by omega) (by omega)) ?_
      refine a_sld (i + 2) dL_law_1531 (by omega) (by omega) ?_
      rw [ha2]
      refine b_callV (d' := d - 1) (mc' := 0) (ms' := 0) (mc1 := mc) (ms1 := ms) (st := [vI (-1000000013)]) (b := 123) [vI ((s0 : Nat) : Int), vI ((p0 : Nat) : Int)] dL_law_1532 mwX9_item lkL_183 (by decide) rfl rc_X9 rfl (Nat.le_of_ble_eq_true rfl) (by omega) (by omega) (by omega) (c_X9_item (v1 := (h 148 s0)) (v2 := (h 149 s0)) (v3 := (h 151 (24 * s0 + p0))) (by omega)  rfl rfl (congrArg (h 151) (show (Int.toNat ((24 * ((s0 : Nat) : Int)) + ((p0 : Nat) : Int))) = (24 * s0 + p0) by omega)) (show Ip (0 ≤ ((s0 : Nat) : Int) ∧ ((s0 : Nat) : Int) ≤ 4 ∧ (h 148 s0) = 2) (0 ≤ (h 149 s0) ∧ (h 149 s0) ≤ 24) from fun _ => (by omega)) (fun t1_1_9 c16_3_9 c30_5_9 t46_7_9 c71_9_9 => ?_) (fun t1_1_9 c16_3_9 c30_5_9 t46_7_9 c71_9_9 => ?_) (fun t1_1_9 c16_3_9 c30_5_9 t46_7_9 => ?_) (fun t1_1_9 c16_3_9 c30_5_9 => ?_) (fun t1_1_9 c16_3_9 => ?_) (fun t1_1_9 => ?_))
      · have t1_1_9 : 0 ≤ ((s0 : Nat) : Int) ∧ ((s0 : Nat) : Int) ≤ 4 := t1_1_9
        have c16_3_9 : ¬ (h 148 s0) = 0 := c16_3_9
        have c30_5_9 : (h 148 s0) = 2 := c30_5_9
        have t46_7_9 : 0 ≤ ((p0 : Nat) : Int) ∧ ((p0 : Nat) : Int) ≤ ((h 149 s0) - 1) := t46_7_9
        have c71_9_9 : ¬ (h 151 (24 * s0 + p0)) = (-1000000005) := c71_9_9
        show Aj γ mL_law d mc ms Post 1535 [(0, vK 0), (1, vA 0), (2, vA 123), (3, vI ((i : Nat) : Int))] [vI (h 151 (24 * s0 + p0)), vI (-1000000013)] (mk h τ)
        refine a_icmp_eq (tgt := 1668) dL_law_1535 (by decide) (fun c1535_11 => ?_) (fun c1535_11 => ?_)
        · exact kE h N J (IV_up (by omega) hI)
        · refine a_iconst dL_law_1538 ⟨by decide, by decide⟩ ?_
          exact a_zret dL_law_1539 rfl (by first | exact Or.inl rfl | exact Or.inr rfl | omega) (by exfalso; omega)
      · have t1_1_9 : 0 ≤ ((s0 : Nat) : Int) ∧ ((s0 : Nat) : Int) ≤ 4 := t1_1_9
        have c16_3_9 : ¬ (h 148 s0) = 0 := c16_3_9
        have c30_5_9 : (h 148 s0) = 2 := c30_5_9
        have t46_7_9 : 0 ≤ ((p0 : Nat) : Int) ∧ ((p0 : Nat) : Int) ≤ ((h 149 s0) - 1) := t46_7_9
        have c71_9_9 : (h 151 (24 * s0 + p0)) = (-1000000005) := c71_9_9
        show Aj γ mL_law d mc ms Post 1535 [(0, vK 0), (1, vA 0), (2, vA 123), (3, vI ((i : Nat) : Int))] [vI (-1000000012), vI (-1000000013)] (mk h τ)
        refine a_icmp_eq (tgt := 1668) dL_law_1535 (by decide) (fun c => absurd c (by decide)) (fun _ => ?_)
        refine a_iconst dL_law_1538 ⟨by decide, by decide⟩ ?_
        exact a_zret dL_law_1539 rfl (by first | exact Or.inl rfl | exact Or.inr rfl | omega) (by exfalso; omega)
      · have t1_1_9 : 0 ≤ ((s0 : Nat) : Int) ∧ ((s0 : Nat) : Int) ≤ 4 := t1_1_9
        have c16_3_9 : ¬ (h 148 s0) = 0 := c16_3_9
        have c30_5_9 : (h 148 s0) = 2 := c30_5_9
        have t46_7_9 : ¬ (0 ≤ ((p0 : Nat) : Int) ∧ ((p0 : Nat) : Int) ≤ ((h 149 s0) - 1)) := t46_7_9
        show Aj γ mL_law d mc ms Post 1535 [(0, vK 0), (1, vA 0), (2, vA 123), (3, vI ((i : Nat) : Int))] [vI (-1000000013), vI (-1000000013)] (mk h τ)
        refine a_icmp_eq (tgt := 1668) dL_law_1535 (by decide) (fun _ => ?_) (fun c => absurd c (by decide))
        exact kE h N J (IV_up (by omega) hI)
      · exfalso
        omega
      · exfalso
        omega
      · exfalso
        omega
    · have t1_1_1 : 0 ≤ ((s0 : Nat) : Int) ∧ ((s0 : Nat) : Int) ≤ 4 := t1_1_1
      have c21_2_1 : ¬ (h 148 s0) = 0 := c21_2_1
      have c33_3_1 : ¬ (h 148 s0) = 2 := c33_3_1
      show Aj γ mL_law d mc ms Post 1521 [(0, vK 0), (1, vA 0), (2, vA 123), (3, vI ((i : Nat) : Int))] [vI (-1000000012)] (mk h τ)
      refine a_aload_n (j := 2) dL_law_1521 rfl rfl (Nat.le_of_ble_eq_true rfl) ?_
      refine a_aload_n (j := 0) dL_law_1522 rfl rfl (Nat.le_of_ble_eq_true rfl) ?_
      refine a_iload_n (j := 3) dL_law_1523 rfl rfl ?_
      refine a_iconst dL_law_1524 ⟨by decide, by decide⟩ ?_
      refine a_iadd (z := (((i : Nat) : Int) + 1)) dL_law_1525 (w_ok (by omega) (by omega)) ?_
      refine a_sld (i + 1) dL_law_1526 (by omega) (by omega) ?_
      rw [ha1]
      refine a_aload_n (j := 0) dL_law_1527 rfl rfl (Nat.le_of_ble_eq_true rfl) ?_
      refine a_iload_n (j := 3) dL_law_1528 rfl rfl ?_
      refine a_iconst dL_law_1529 ⟨by decide, by decide⟩ ?_
      refine a_iadd (z := (((i : Nat) : Int) + 2)) dL_law_1530 (w_ok (by omega) (by omega)) ?_
      refine a_sld (i + 2) dL_law_1531 (by omega) (by omega) ?_
      rw [ha2]
      refine b_callV (d' := d - 1) (mc' := 0) (ms' := 0) (mc1 := mc) (ms1 := ms) (st := [vI (-1000000012)]) (b := 123) [vI ((s0 : Nat) : Int), vI ((p0 : Nat) : Int)] dL_law_1532 mwX9_item lkL_183 (by decide) rfl rc_X9 rfl (Nat.le_of_ble_eq_true rfl) (by omega) (by omega) (by omega) (c_X9_item (v1 := (h 148 s0)) (v2 := (h 149 s0)) (v3 := (h 151 (24 * s0 + p0))) (by omega)  rfl rfl (congrArg (h 151) (show (Int.toNat ((24 * ((s0 : Nat) : Int)) + ((p0 : Nat) : Int))) = (24 * s0 + p0) by omega)) (show Ip (0 ≤ ((s0 : Nat) : Int) ∧ ((s0 : Nat) : Int) ≤ 4 ∧ (h 148 s0) = 2) (0 ≤ (h 149 s0) ∧ (h 149 s0) ≤ 24) from fun _ => (by omega)) (fun t1_1_12 c16_3_12 c30_5_12 t46_7_12 c71_9_12 => ?_) (fun t1_1_12 c16_3_12 c30_5_12 t46_7_12 c71_9_12 => ?_) (fun t1_1_12 c16_3_12 c30_5_12 t46_7_12 => ?_) (fun t1_1_12 c16_3_12 c30_5_12 => ?_) (fun t1_1_12 c16_3_12 => ?_) (fun t1_1_12 => ?_))
      · exfalso
        omega
      · exfalso
        omega
      · exfalso
        omega
      · have t1_1_12 : 0 ≤ ((s0 : Nat) : Int) ∧ ((s0 : Nat) : Int) ≤ 4 := t1_1_12
        have c16_3_12 : ¬ (h 148 s0) = 0 := c16_3_12
        have c30_5_12 : ¬ (h 148 s0) = 2 := c30_5_12
        show Aj γ mL_law d mc ms Post 1535 [(0, vK 0), (1, vA 0), (2, vA 123), (3, vI ((i : Nat) : Int))] [vI (-1000000012), vI (-1000000012)] (mk h τ)
        refine a_icmp_eq (tgt := 1668) dL_law_1535 (by decide) (fun _ => ?_) (fun c => absurd c (by decide))
        exact kE h N J (IV_up (by omega) hI)
      · exfalso
        omega
      · exfalso
        omega
    · have t1_1_1 : 0 ≤ ((s0 : Nat) : Int) ∧ ((s0 : Nat) : Int) ≤ 4 := t1_1_1
      have c21_2_1 : (h 148 s0) = 0 := c21_2_1
      show Aj γ mL_law d mc ms Post 1521 [(0, vK 0), (1, vA 0), (2, vA 123), (3, vI ((i : Nat) : Int))] [vI (-1000000011)] (mk h τ)
      refine a_aload_n (j := 2) dL_law_1521 rfl rfl (Nat.le_of_ble_eq_true rfl) ?_
      refine a_aload_n (j := 0) dL_law_1522 rfl rfl (Nat.le_of_ble_eq_true rfl) ?_
      refine a_iload_n (j := 3) dL_law_1523 rfl rfl ?_
      refine a_iconst dL_law_1524 ⟨by decide, by decide⟩ ?_
      refine a_iadd (z := (((i : Nat) : Int) + 1)) dL_law_1525 (w_ok (by omega) (by omega)) ?_
      refine a_sld (i + 1) dL_law_1526 (by omega) (by omega) ?_
      rw [ha1]
      refine a_aload_n (j := 0) dL_law_1527 rfl rfl (Nat.le_of_ble_eq_true rfl) ?_
      refine a_iload_n (j := 3) dL_law_1528 rfl rfl ?_
      refine a_iconst dL_law_1529 ⟨by decide, by decide⟩ ?_
      refine a_iadd (z := (((i : Nat) : Int) + 2)) dL_law_1530 (w_ok (by omega) (by omega)) ?_
      refine a_sld (i + 2) dL_law_1531 (by omega) (by omega) ?_
      rw [ha2]
      refine b_callV (d' := d - 1) (mc' := 0) (ms' := 0) (mc1 := mc) (ms1 := ms) (st := [vI (-1000000011)]) (b := 123) [vI ((s0 : Nat) : Int), vI ((p0 : Nat) : Int)] dL_law_1532 mwX9_item lkL_183 (by decide) rfl rc_X9 rfl (Nat.le_of_ble_eq_true rfl) (by omega) (by omega) (by omega) (c_X9_item (v1 := (h 148 s0)) (v2 := (h 149 s0)) (v3 := (h 151 (24 * s0 + p0))) (by omega)  rfl rfl (congrArg (h 151) (show (Int.toNat ((24 * ((s0 : Nat) : Int)) + ((p0 : Nat) : Int))) = (24 * s0 + p0) by omega)) (show Ip (0 ≤ ((s0 : Nat) : Int) ∧ ((s0 : Nat) : Int) ≤ 4 ∧ (h 148 s0) = 2) (0 ≤ (h 149 s0) ∧ (h 149 s0) ≤ 24) from fun _ => (by omega)) (fun t1_1_14 c16_3_14 c30_5_14 t46_7_14 c71_9_14 => ?_) (fun t1_1_14 c16_3_14 c30_5_14 t46_7_14 c71_9_14 => ?_) (fun t1_1_14 c16_3_14 c30_5_14 t46_7_14 => ?_) (fun t1_1_14 c16_3_14 c30_5_14 => ?_) (fun t1_1_14 c16_3_14 => ?_) (fun t1_1_14 => ?_))
      · exfalso
        omega
      · exfalso
        omega
      · exfalso
        omega
      · exfalso
        omega
      · have t1_1_14 : 0 ≤ ((s0 : Nat) : Int) ∧ ((s0 : Nat) : Int) ≤ 4 := t1_1_14
        have c16_3_14 : (h 148 s0) = 0 := c16_3_14
        show Aj γ mL_law d mc ms Post 1535 [(0, vK 0), (1, vA 0), (2, vA 123), (3, vI ((i : Nat) : Int))] [vI (-1000000011), vI (-1000000011)] (mk h τ)
        refine a_icmp_eq (tgt := 1668) dL_law_1535 (by decide) (fun _ => ?_) (fun c => absurd c (by decide))
        exact kE h N J (IV_up (by omega) hI)
      · exfalso
        omega
    · exfalso
      omega
  · obtain rfl : a1 = ((s0 : Nat) : Int) := by omega
    obtain ⟨l0, l1, l2, l3, l4, l5⟩ := hO.2.2.1 s0 (by omega)
    obtain ⟨lt1, lt2, lt3⟩ := l3 hin.2.1
    refine a_aload_n (j := 1) dL_law_1507 rfl rfl (Nat.le_of_ble_eq_true rfl) ?_
    refine a_aload_n (j := 0) dL_law_1508 rfl rfl (Nat.le_of_ble_eq_true rfl) ?_
    refine a_iload_n (j := 3) dL_law_1509 rfl rfl ?_
    refine a_iconst dL_law_1510 ⟨by decide, by decide⟩ ?_
    refine a_iadd (z := (((i : Nat) : Int) + 1)) dL_law_1511 (w_ok (by omega) (by omega)) ?_
    refine a_sld (i + 1) dL_law_1512 (by omega) (by omega) ?_
    rw [ha1]
    refine a_aload_n (j := 0) dL_law_1513 rfl rfl (Nat.le_of_ble_eq_true rfl) ?_
    refine a_iload_n (j := 3) dL_law_1514 rfl rfl ?_
    refine a_iconst dL_law_1515 ⟨by decide, by decide⟩ ?_
    refine a_iadd (z := (((i : Nat) : Int) + 2)) dL_law_1516 (w_ok (by omega) (by omega)) ?_
    refine a_sld (i + 2) dL_law_1517 (by omega) (by omega) ?_
    rw [ha2]
    refine b_callV (d' := d - 1) (mc' := 0) (ms' := 0) (mc1 := mc) (ms1 := ms) (st := []) (b := 0) [vI ((s0 : Nat) : Int), vI a2] dL_law_1518 mwX8_item lkL_180 (by decide) rfl rc_X8 rfl (Nat.le_of_ble_eq_true rfl) (by omega) (by omega) (by omega) (c_X8_item (v1 := (h 149 s0)) (v2 := (h 148 s0)) (v3 := (h (((98 + 5 * s0) + 3) + 1) (Int.toNat a2))) (by omega)  lt1 l0 rfl (show Im ((s0 : Nat) : Int) 5 (0 ≤ (h 149 s0) ∧ (h 149 s0) ≤ 24) from fun _ _ => (by omega)) (fun t1_1_1 c21_2_1 c33_3_1 t44_4_1 c69_6_1 => ?_) (fun t1_1_1 c21_2_1 c33_3_1 t44_4_1 c69_6_1 => ?_) (fun t1_1_1 c21_2_1 c33_3_1 t44_4_1 => ?_) (fun t1_1_1 c21_2_1 c33_3_1 => ?_) (fun t1_1_1 c21_2_1 => ?_) (fun t1_1_1 => ?_))
    · have t1_1_1 : 0 ≤ ((s0 : Nat) : Int) ∧ ((s0 : Nat) : Int) ≤ 4 := t1_1_1
      have c21_2_1 : ¬ (h 148 s0) = 0 := c21_2_1
      have c33_3_1 : (h 148 s0) = 2 := c33_3_1
      have t44_4_1 : 0 ≤ a2 ∧ a2 < (h 149 s0) := t44_4_1
      have c69_6_1 : ¬ (h (((98 + 5 * s0) + 3) + 1) (Int.toNat a2)) = (-1000000005) := c69_6_1
      show Aj γ mL_law d mc ms Post 1521 [(0, vK 0), (1, vA 0), (2, vA 123), (3, vI ((i : Nat) : Int))] [vI (h (((98 + 5 * s0) + 3) + 1) (Int.toNat a2))] (mk h τ)
      refine a_aload_n (j := 2) dL_law_1521 rfl rfl (Nat.le_of_ble_eq_true rfl) ?_
      refine a_aload_n (j := 0) dL_law_1522 rfl rfl (Nat.le_of_ble_eq_true rfl) ?_
      refine a_iload_n (j := 3) dL_law_1523 rfl rfl ?_
      refine a_iconst dL_law_1524 ⟨by decide, by decide⟩ ?_
      refine a_iadd (z := (((i : Nat) : Int) + 1)) dL_law_1525 (w_ok (by omega) (by omega)) ?_
      refine a_sld (i + 1) dL_law_1526 (by omega) (by omega) ?_
      rw [ha1]
      refine a_aload_n (j := 0) dL_law_1527 rfl rfl (Nat.le_of_ble_eq_true rfl) ?_
      refine a_iload_n (j := 3) dL_law_1528 rfl rfl ?_
      refine a_iconst dL_law_1529 ⟨by decide, by decide⟩ ?_
      refine a_iadd (z := (((i : Nat) : Int) + 2)) dL_law_1530 (w_ok (by omega) (by omega)) ?_
      refine a_sld (i + 2) dL_law_1531 (by omega) (by omega) ?_
      rw [ha2]
      refine b_callV (d' := d - 1) (mc' := 0) (ms' := 0) (mc1 := mc) (ms1 := ms) (st := [vI (h (((98 + 5 * s0) + 3) + 1) (Int.toNat a2))]) (b := 123) [vI ((s0 : Nat) : Int), vI a2] dL_law_1532 mwX9_item lkL_183 (by decide) rfl rc_X9 rfl (Nat.le_of_ble_eq_true rfl) (by omega) (by omega) (by omega) (c_X9_item (v1 := (h 148 s0)) (v2 := (h 149 s0)) (v3 := (h 151 (Int.toNat ((24 * ((s0 : Nat) : Int)) + a2)))) (by omega)  rfl rfl rfl (show Ip (0 ≤ ((s0 : Nat) : Int) ∧ ((s0 : Nat) : Int) ≤ 4 ∧ (h 148 s0) = 2) (0 ≤ (h 149 s0) ∧ (h 149 s0) ≤ 24) from fun _ => (by omega)) (fun t1_1_3 c16_3_3 c30_5_3 t46_7_3 c71_9_3 => ?_) (fun t1_1_3 c16_3_3 c30_5_3 t46_7_3 c71_9_3 => ?_) (fun t1_1_3 c16_3_3 c30_5_3 t46_7_3 => ?_) (fun t1_1_3 c16_3_3 c30_5_3 => ?_) (fun t1_1_3 c16_3_3 => ?_) (fun t1_1_3 => ?_))
      · have t1_1_3 : 0 ≤ ((s0 : Nat) : Int) ∧ ((s0 : Nat) : Int) ≤ 4 := t1_1_3
        have c16_3_3 : ¬ (h 148 s0) = 0 := c16_3_3
        have c30_5_3 : (h 148 s0) = 2 := c30_5_3
        have t46_7_3 : 0 ≤ a2 ∧ a2 ≤ ((h 149 s0) - 1) := t46_7_3
        have c71_9_3 : ¬ (h 151 (Int.toNat ((24 * ((s0 : Nat) : Int)) + a2))) = (-1000000005) := c71_9_3
        show Aj γ mL_law d mc ms Post 1535 [(0, vK 0), (1, vA 0), (2, vA 123), (3, vI ((i : Nat) : Int))] [vI (h 151 (Int.toNat ((24 * ((s0 : Nat) : Int)) + a2))), vI (h (((98 + 5 * s0) + 3) + 1) (Int.toNat a2))] (mk h τ)
        refine a_icmp_eq (tgt := 1668) dL_law_1535 (by decide) (fun c1535_5 => ?_) (fun c1535_5 => ?_)
        · exact kE h N J (IV_up (by omega) hI)
        · refine a_iconst dL_law_1538 ⟨by decide, by decide⟩ ?_
          exact a_zret dL_law_1539 rfl (by first | exact Or.inl rfl | exact Or.inr rfl | omega) (by exfalso; omega)
      · have t1_1_3 : 0 ≤ ((s0 : Nat) : Int) ∧ ((s0 : Nat) : Int) ≤ 4 := t1_1_3
        have c16_3_3 : ¬ (h 148 s0) = 0 := c16_3_3
        have c30_5_3 : (h 148 s0) = 2 := c30_5_3
        have t46_7_3 : 0 ≤ a2 ∧ a2 ≤ ((h 149 s0) - 1) := t46_7_3
        have c71_9_3 : (h 151 (Int.toNat ((24 * ((s0 : Nat) : Int)) + a2))) = (-1000000005) := c71_9_3
        show Aj γ mL_law d mc ms Post 1535 [(0, vK 0), (1, vA 0), (2, vA 123), (3, vI ((i : Nat) : Int))] [vI (-1000000012), vI (h (((98 + 5 * s0) + 3) + 1) (Int.toNat a2))] (mk h τ)
        refine a_icmp_eq (tgt := 1668) dL_law_1535 (by decide) (fun c1535_6 => ?_) (fun c1535_6 => ?_)
        · exact kE h N J (IV_up (by omega) hI)
        · refine a_iconst dL_law_1538 ⟨by decide, by decide⟩ ?_
          exact a_zret dL_law_1539 rfl (by first | exact Or.inl rfl | exact Or.inr rfl | omega) (by exfalso; omega)
      · have t1_1_3 : 0 ≤ ((s0 : Nat) : Int) ∧ ((s0 : Nat) : Int) ≤ 4 := t1_1_3
        have c16_3_3 : ¬ (h 148 s0) = 0 := c16_3_3
        have c30_5_3 : (h 148 s0) = 2 := c30_5_3
        have t46_7_3 : ¬ (0 ≤ a2 ∧ a2 ≤ ((h 149 s0) - 1)) := t46_7_3
        show Aj γ mL_law d mc ms Post 1535 [(0, vK 0), (1, vA 0), (2, vA 123), (3, vI ((i : Nat) : Int))] [vI (-1000000013), vI (h (((98 + 5 * s0) + 3) + 1) (Int.toNat a2))] (mk h τ)
        refine a_icmp_eq (tgt := 1668) dL_law_1535 (by decide) (fun c1535_7 => ?_) (fun c1535_7 => ?_)
        · exact kE h N J (IV_up (by omega) hI)
        · refine a_iconst dL_law_1538 ⟨by decide, by decide⟩ ?_
          exact a_zret dL_law_1539 rfl (by first | exact Or.inl rfl | exact Or.inr rfl | omega) (by exfalso; omega)
      · exfalso
        omega
      · exfalso
        omega
      · exfalso
        omega
    · have t1_1_1 : 0 ≤ ((s0 : Nat) : Int) ∧ ((s0 : Nat) : Int) ≤ 4 := t1_1_1
      have c21_2_1 : ¬ (h 148 s0) = 0 := c21_2_1
      have c33_3_1 : (h 148 s0) = 2 := c33_3_1
      have t44_4_1 : 0 ≤ a2 ∧ a2 < (h 149 s0) := t44_4_1
      have c69_6_1 : (h (((98 + 5 * s0) + 3) + 1) (Int.toNat a2)) = (-1000000005) := c69_6_1
      show Aj γ mL_law d mc ms Post 1521 [(0, vK 0), (1, vA 0), (2, vA 123), (3, vI ((i : Nat) : Int))] [vI (-1000000012)] (mk h τ)
      refine a_aload_n (j := 2) dL_law_1521 rfl rfl (Nat.le_of_ble_eq_true rfl) ?_
      refine a_aload_n (j := 0) dL_law_1522 rfl rfl (Nat.le_of_ble_eq_true rfl) ?_
      refine a_iload_n (j := 3) dL_law_1523 rfl rfl ?_
      refine a_iconst dL_law_1524 ⟨by decide, by decide⟩ ?_
      refine a_iadd (z := (((i : Nat) : Int) + 1)) dL_law_1525 (w_ok (by omega) (by omega)) ?_
      refine a_sld (i + 1) dL_law_1526 (by omega) (by omega) ?_
      rw [ha1]
      refine a_aload_n (j := 0) dL_law_1527 rfl rfl (Nat.le_of_ble_eq_true rfl) ?_
      refine a_iload_n (j := 3) dL_law_1528 rfl rfl ?_
      refine a_iconst dL_law_1529 ⟨by decide, by decide⟩ ?_
      refine a_iadd (z := (((i : Nat) : Int) + 2)) dL_law_1530 (w_ok (by omega) (by omega)) ?_
      refine a_sld (i + 2) dL_law_1531 (by omega) (by omega) ?_
      rw [ha2]
      refine b_callV (d' := d - 1) (mc' := 0) (ms' := 0) (mc1 := mc) (ms1 := ms) (st := [vI (-1000000012)]) (b := 123) [vI ((s0 : Nat) : Int), vI a2] dL_law_1532 mwX9_item lkL_183 (by decide) rfl rc_X9 rfl (Nat.le_of_ble_eq_true rfl) (by omega) (by omega) (by omega) (c_X9_item (v1 := (h 148 s0)) (v2 := (h 149 s0)) (v3 := (h 151 (Int.toNat ((24 * ((s0 : Nat) : Int)) + a2)))) (by omega)  rfl rfl rfl (show Ip (0 ≤ ((s0 : Nat) : Int) ∧ ((s0 : Nat) : Int) ≤ 4 ∧ (h 148 s0) = 2) (0 ≤ (h 149 s0) ∧ (h 149 s0) ≤ 24) from fun _ => (by omega)) (fun t1_1_8 c16_3_8 c30_5_8 t46_7_8 c71_9_8 => ?_) (fun t1_1_8 c16_3_8 c30_5_8 t46_7_8 c71_9_8 => ?_) (fun t1_1_8 c16_3_8 c30_5_8 t46_7_8 => ?_) (fun t1_1_8 c16_3_8 c30_5_8 => ?_) (fun t1_1_8 c16_3_8 => ?_) (fun t1_1_8 => ?_))
      · have t1_1_8 : 0 ≤ ((s0 : Nat) : Int) ∧ ((s0 : Nat) : Int) ≤ 4 := t1_1_8
        have c16_3_8 : ¬ (h 148 s0) = 0 := c16_3_8
        have c30_5_8 : (h 148 s0) = 2 := c30_5_8
        have t46_7_8 : 0 ≤ a2 ∧ a2 ≤ ((h 149 s0) - 1) := t46_7_8
        have c71_9_8 : ¬ (h 151 (Int.toNat ((24 * ((s0 : Nat) : Int)) + a2))) = (-1000000005) := c71_9_8
        show Aj γ mL_law d mc ms Post 1535 [(0, vK 0), (1, vA 0), (2, vA 123), (3, vI ((i : Nat) : Int))] [vI (h 151 (Int.toNat ((24 * ((s0 : Nat) : Int)) + a2))), vI (-1000000012)] (mk h τ)
        refine a_icmp_eq (tgt := 1668) dL_law_1535 (by decide) (fun c1535_10 => ?_) (fun c1535_10 => ?_)
        · exact kE h N J (IV_up (by omega) hI)
        · refine a_iconst dL_law_1538 ⟨by decide, by decide⟩ ?_
          exact a_zret dL_law_1539 rfl (by first | exact Or.inl rfl | exact Or.inr rfl | omega) (by exfalso; omega)
      · have t1_1_8 : 0 ≤ ((s0 : Nat) : Int) ∧ ((s0 : Nat) : Int) ≤ 4 := t1_1_8
        have c16_3_8 : ¬ (h 148 s0) = 0 := c16_3_8
        have c30_5_8 : (h 148 s0) = 2 := c30_5_8
        have t46_7_8 : 0 ≤ a2 ∧ a2 ≤ ((h 149 s0) - 1) := t46_7_8
        have c71_9_8 : (h 151 (Int.toNat ((24 * ((s0 : Nat) : Int)) + a2))) = (-1000000005) := c71_9_8
        show Aj γ mL_law d mc ms Post 1535 [(0, vK 0), (1, vA 0), (2, vA 123), (3, vI ((i : Nat) : Int))] [vI (-1000000012), vI (-1000000012)] (mk h τ)
        refine a_icmp_eq (tgt := 1668) dL_law_1535 (by decide) (fun _ => ?_) (fun c => absurd c (by decide))
        exact kE h N J (IV_up (by omega) hI)
      · have t1_1_8 : 0 ≤ ((s0 : Nat) : Int) ∧ ((s0 : Nat) : Int) ≤ 4 := t1_1_8
        have c16_3_8 : ¬ (h 148 s0) = 0 := c16_3_8
        have c30_5_8 : (h 148 s0) = 2 := c30_5_8
        have t46_7_8 : ¬ (0 ≤ a2 ∧ a2 ≤ ((h 149 s0) - 1)) := t46_7_8
        show Aj γ mL_law d mc ms Post 1535 [(0, vK 0), (1, vA 0), (2, vA 123), (3, vI ((i : Nat) : Int))] [vI (-1000000013), vI (-1000000012)] (mk h τ)
        refine a_icmp_eq (tgt := 1668) dL_law_1535 (by decide) (fun c => absurd c (by decide)) (fun _ => ?_)
        refine a_iconst dL_law_1538 ⟨by decide, by decide⟩ ?_
        exact a_zret dL_law_1539 rfl (by first | exact Or.inl rfl | exact Or.inr rfl | omega) (by exfalso; omega)
      · exfalso
        omega
      · exfalso
        omega
      · exfalso
        omega
    · have t1_1_1 : 0 ≤ ((s0 : Nat) : Int) ∧ ((s0 : Nat) : Int) ≤ 4 := t1_1_1
      have c21_2_1 : ¬ (h 148 s0) = 0 := c21_2_1
      have c33_3_1 : (h 148 s0) = 2 := c33_3_1
      have t44_4_1 : ¬ (0 ≤ a2 ∧ a2 < (h 149 s0)) := t44_4_1
      show Aj γ mL_law d mc ms Post 1521 [(0, vK 0), (1, vA 0), (2, vA 123), (3, vI ((i : Nat) : Int))] [vI (-1000000013)] (mk h τ)
      refine a_aload_n (j := 2) dL_law_1521 rfl rfl (Nat.le_of_ble_eq_true rfl) ?_
      refine a_aload_n (j := 0) dL_law_1522 rfl rfl (Nat.le_of_ble_eq_true rfl) ?_
      refine a_iload_n (j := 3) dL_law_1523 rfl rfl ?_
      refine a_iconst dL_law_1524 ⟨by decide, by decide⟩ ?_
      refine a_iadd (z := (((i : Nat) : Int) + 1)) dL_law_1525 (w_ok (by omega) (by omega)) ?_
      refine a_sld (i + 1) dL_law_1526 (by omega) (by omega) ?_
      rw [ha1]
      refine a_aload_n (j := 0) dL_law_1527 rfl rfl (Nat.le_of_ble_eq_true rfl) ?_
      refine a_iload_n (j := 3) dL_law_1528 rfl rfl ?_
      refine a_iconst dL_law_1529 ⟨by decide, by decide⟩ ?_
      refine a_iadd (z := (((i : Nat) : Int) + 2)) dL_law_1530 (w_ok (by omega) (by omega)) ?_
      refine a_sld (i + 2) dL_law_1531 (by omega) (by omega) ?_
      rw [ha2]
      refine b_callV (d' := d - 1) (mc' := 0) (ms' := 0) (mc1 := mc) (ms1 := ms) (st := [vI (-1000000013)]) (b := 123) [vI ((s0 : Nat) : Int), vI a2] dL_law_1532 mwX9_item lkL_183 (by decide) rfl rc_X9 rfl (Nat.le_of_ble_eq_true rfl) (by omega) (by omega) (by omega) (c_X9_item (v1 := (h 148 s0)) (v2 := (h 149 s0)) (v3 := (h 151 (Int.toNat ((24 * ((s0 : Nat) : Int)) + a2)))) (by omega)  rfl rfl rfl (show Ip (0 ≤ ((s0 : Nat) : Int) ∧ ((s0 : Nat) : Int) ≤ 4 ∧ (h 148 s0) = 2) (0 ≤ (h 149 s0) ∧ (h 149 s0) ≤ 24) from fun _ => (by omega)) (fun t1_1_11 c16_3_11 c30_5_11 t46_7_11 c71_9_11 => ?_) (fun t1_1_11 c16_3_11 c30_5_11 t46_7_11 c71_9_11 => ?_) (fun t1_1_11 c16_3_11 c30_5_11 t46_7_11 => ?_) (fun t1_1_11 c16_3_11 c30_5_11 => ?_) (fun t1_1_11 c16_3_11 => ?_) (fun t1_1_11 => ?_))
      · have t1_1_11 : 0 ≤ ((s0 : Nat) : Int) ∧ ((s0 : Nat) : Int) ≤ 4 := t1_1_11
        have c16_3_11 : ¬ (h 148 s0) = 0 := c16_3_11
        have c30_5_11 : (h 148 s0) = 2 := c30_5_11
        have t46_7_11 : 0 ≤ a2 ∧ a2 ≤ ((h 149 s0) - 1) := t46_7_11
        have c71_9_11 : ¬ (h 151 (Int.toNat ((24 * ((s0 : Nat) : Int)) + a2))) = (-1000000005) := c71_9_11
        show Aj γ mL_law d mc ms Post 1535 [(0, vK 0), (1, vA 0), (2, vA 123), (3, vI ((i : Nat) : Int))] [vI (h 151 (Int.toNat ((24 * ((s0 : Nat) : Int)) + a2))), vI (-1000000013)] (mk h τ)
        refine a_icmp_eq (tgt := 1668) dL_law_1535 (by decide) (fun c1535_13 => ?_) (fun c1535_13 => ?_)
        · exact kE h N J (IV_up (by omega) hI)
        · refine a_iconst dL_law_1538 ⟨by decide, by decide⟩ ?_
          exact a_zret dL_law_1539 rfl (by first | exact Or.inl rfl | exact Or.inr rfl | omega) (by exfalso; omega)
      · have t1_1_11 : 0 ≤ ((s0 : Nat) : Int) ∧ ((s0 : Nat) : Int) ≤ 4 := t1_1_11
        have c16_3_11 : ¬ (h 148 s0) = 0 := c16_3_11
        have c30_5_11 : (h 148 s0) = 2 := c30_5_11
        have t46_7_11 : 0 ≤ a2 ∧ a2 ≤ ((h 149 s0) - 1) := t46_7_11
        have c71_9_11 : (h 151 (Int.toNat ((24 * ((s0 : Nat) : Int)) + a2))) = (-1000000005) := c71_9_11
        show Aj γ mL_law d mc ms Post 1535 [(0, vK 0), (1, vA 0), (2, vA 123), (3, vI ((i : Nat) : Int))] [vI (-1000000012), vI (-1000000013)] (mk h τ)
        refine a_icmp_eq (tgt := 1668) dL_law_1535 (by decide) (fun c => absurd c (by decide)) (fun _ => ?_)
        refine a_iconst dL_law_1538 ⟨by decide, by decide⟩ ?_
        exact a_zret dL_law_1539 rfl (by first | exact Or.inl rfl | exact Or.inr rfl | omega) (by exfalso; omega)
      · have t1_1_11 : 0 ≤ ((s0 : Nat) : Int) ∧ ((s0 : Nat) : Int) ≤ 4 := t1_1_11
        have c16_3_11 : ¬ (h 148 s0) = 0 := c16_3_11
        have c30_5_11 : (h 148 s0) = 2 := c30_5_11
        have t46_7_11 : ¬ (0 ≤ a2 ∧ a2 ≤ ((h 149 s0) - 1)) := t46_7_11
        show Aj γ mL_law d mc ms Post 1535 [(0, vK 0), (1, vA 0), (2, vA 123), (3, vI ((i : Nat) : Int))] [vI (-1000000013), vI (-1000000013)] (mk h τ)
        refine a_icmp_eq (tgt := 1668) dL_law_1535 (by decide) (fun _ => ?_) (fun c => absurd c (by decide))
        exact kE h N J (IV_up (by omega) hI)
      · exfalso
        omega
      · exfalso
        omega
      · exfalso
        omega
    · have t1_1_1 : 0 ≤ ((s0 : Nat) : Int) ∧ ((s0 : Nat) : Int) ≤ 4 := t1_1_1
      have c21_2_1 : ¬ (h 148 s0) = 0 := c21_2_1
      have c33_3_1 : ¬ (h 148 s0) = 2 := c33_3_1
      show Aj γ mL_law d mc ms Post 1521 [(0, vK 0), (1, vA 0), (2, vA 123), (3, vI ((i : Nat) : Int))] [vI (-1000000012)] (mk h τ)
      refine a_aload_n (j := 2) dL_law_1521 rfl rfl (Nat.le_of_ble_eq_true rfl) ?_
      refine a_aload_n (j := 0) dL_law_1522 rfl rfl (Nat.le_of_ble_eq_true rfl) ?_
      refine a_iload_n (j := 3) dL_law_1523 rfl rfl ?_
      refine a_iconst dL_law_1524 ⟨by decide, by decide⟩ ?_
      refine a_iadd (z := (((i : Nat) : Int) + 1)) dL_law_1525 (w_ok (by omega) (by omega)) ?_
      refine a_sld (i + 1) dL_law_1526 (by omega) (by omega) ?_
      rw [ha1]
      refine a_aload_n (j := 0) dL_law_1527 rfl rfl (Nat.le_of_ble_eq_true rfl) ?_
      refine a_iload_n (j := 3) dL_law_1528 rfl rfl ?_
      refine a_iconst dL_law_1529 ⟨by decide, by decide⟩ ?_
      refine a_iadd (z := (((i : Nat) : Int) + 2)) dL_law_1530 (w_ok (by omega) (by omega)) ?_
      refine a_sld (i + 2) dL_law_1531 (by omega) (by omega) ?_
      rw [ha2]
      refine b_callV (d' := d - 1) (mc' := 0) (ms' := 0) (mc1 := mc) (ms1 := ms) (st := [vI (-1000000012)]) (b := 123) [vI ((s0 : Nat) : Int), vI a2] dL_law_1532 mwX9_item lkL_183 (by decide) rfl rc_X9 rfl (Nat.le_of_ble_eq_true rfl) (by omega) (by omega) (by omega) (c_X9_item (v1 := (h 148 s0)) (v2 := (h 149 s0)) (v3 := (h 151 (Int.toNat ((24 * ((s0 : Nat) : Int)) + a2)))) (by omega)  rfl rfl rfl (show Ip (0 ≤ ((s0 : Nat) : Int) ∧ ((s0 : Nat) : Int) ≤ 4 ∧ (h 148 s0) = 2) (0 ≤ (h 149 s0) ∧ (h 149 s0) ≤ 24) from fun _ => (by omega)) (fun t1_1_14 c16_3_14 c30_5_14 t46_7_14 c71_9_14 => ?_) (fun t1_1_14 c16_3_14 c30_5_14 t46_7_14 c71_9_14 => ?_) (fun t1_1_14 c16_3_14 c30_5_14 t46_7_14 => ?_) (fun t1_1_14 c16_3_14 c30_5_14 => ?_) (fun t1_1_14 c16_3_14 => ?_) (fun t1_1_14 => ?_))
      · exfalso
        omega
      · exfalso
        omega
      · exfalso
        omega
      · have t1_1_14 : 0 ≤ ((s0 : Nat) : Int) ∧ ((s0 : Nat) : Int) ≤ 4 := t1_1_14
        have c16_3_14 : ¬ (h 148 s0) = 0 := c16_3_14
        have c30_5_14 : ¬ (h 148 s0) = 2 := c30_5_14
        show Aj γ mL_law d mc ms Post 1535 [(0, vK 0), (1, vA 0), (2, vA 123), (3, vI ((i : Nat) : Int))] [vI (-1000000012), vI (-1000000012)] (mk h τ)
        refine a_icmp_eq (tgt := 1668) dL_law_1535 (by decide) (fun _ => ?_) (fun c => absurd c (by decide))
        exact kE h N J (IV_up (by omega) hI)
      · exfalso
        omega
      · exfalso
        omega
    · have t1_1_1 : 0 ≤ ((s0 : Nat) : Int) ∧ ((s0 : Nat) : Int) ≤ 4 := t1_1_1
      have c21_2_1 : (h 148 s0) = 0 := c21_2_1
      show Aj γ mL_law d mc ms Post 1521 [(0, vK 0), (1, vA 0), (2, vA 123), (3, vI ((i : Nat) : Int))] [vI (-1000000011)] (mk h τ)
      refine a_aload_n (j := 2) dL_law_1521 rfl rfl (Nat.le_of_ble_eq_true rfl) ?_
      refine a_aload_n (j := 0) dL_law_1522 rfl rfl (Nat.le_of_ble_eq_true rfl) ?_
      refine a_iload_n (j := 3) dL_law_1523 rfl rfl ?_
      refine a_iconst dL_law_1524 ⟨by decide, by decide⟩ ?_
      refine a_iadd (z := (((i : Nat) : Int) + 1)) dL_law_1525 (w_ok (by omega) (by omega)) ?_
      refine a_sld (i + 1) dL_law_1526 (by omega) (by omega) ?_
      rw [ha1]
      refine a_aload_n (j := 0) dL_law_1527 rfl rfl (Nat.le_of_ble_eq_true rfl) ?_
      refine a_iload_n (j := 3) dL_law_1528 rfl rfl ?_
      refine a_iconst dL_law_1529 ⟨by decide, by decide⟩ ?_
      refine a_iadd (z := (((i : Nat) : Int) + 2)) dL_law_1530 (w_ok (by omega) (by omega)) ?_
      refine a_sld (i + 2) dL_law_1531 (by omega) (by omega) ?_
      rw [ha2]
      refine b_callV (d' := d - 1) (mc' := 0) (ms' := 0) (mc1 := mc) (ms1 := ms) (st := [vI (-1000000011)]) (b := 123) [vI ((s0 : Nat) : Int), vI a2] dL_law_1532 mwX9_item lkL_183 (by decide) rfl rc_X9 rfl (Nat.le_of_ble_eq_true rfl) (by omega) (by omega) (by omega) (c_X9_item (v1 := (h 148 s0)) (v2 := (h 149 s0)) (v3 := (h 151 (Int.toNat ((24 * ((s0 : Nat) : Int)) + a2)))) (by omega)  rfl rfl rfl (show Ip (0 ≤ ((s0 : Nat) : Int) ∧ ((s0 : Nat) : Int) ≤ 4 ∧ (h 148 s0) = 2) (0 ≤ (h 149 s0) ∧ (h 149 s0) ≤ 24) from fun _ => (by omega)) (fun t1_1_16 c16_3_16 c30_5_16 t46_7_16 c71_9_16 => ?_) (fun t1_1_16 c16_3_16 c30_5_16 t46_7_16 c71_9_16 => ?_) (fun t1_1_16 c16_3_16 c30_5_16 t46_7_16 => ?_) (fun t1_1_16 c16_3_16 c30_5_16 => ?_) (fun t1_1_16 c16_3_16 => ?_) (fun t1_1_16 => ?_))
      · exfalso
        omega
      · exfalso
        omega
      · exfalso
        omega
      · exfalso
        omega
      · have t1_1_16 : 0 ≤ ((s0 : Nat) : Int) ∧ ((s0 : Nat) : Int) ≤ 4 := t1_1_16
        have c16_3_16 : (h 148 s0) = 0 := c16_3_16
        show Aj γ mL_law d mc ms Post 1535 [(0, vK 0), (1, vA 0), (2, vA 123), (3, vI ((i : Nat) : Int))] [vI (-1000000011), vI (-1000000011)] (mk h τ)
        refine a_icmp_eq (tgt := 1668) dL_law_1535 (by decide) (fun _ => ?_) (fun c => absurd c (by decide))
        exact kE h N J (IV_up (by omega) hI)
      · exfalso
        omega
    · exfalso
      omega
  · obtain rfl : a1 = ((s0 : Nat) : Int) := by omega
    obtain ⟨l0, l1, l2, l3, l4, l5⟩ := hO.2.2.1 s0 (by omega)
    refine a_aload_n (j := 1) dL_law_1507 rfl rfl (Nat.le_of_ble_eq_true rfl) ?_
    refine a_aload_n (j := 0) dL_law_1508 rfl rfl (Nat.le_of_ble_eq_true rfl) ?_
    refine a_iload_n (j := 3) dL_law_1509 rfl rfl ?_
    refine a_iconst dL_law_1510 ⟨by decide, by decide⟩ ?_
    refine a_iadd (z := (((i : Nat) : Int) + 1)) dL_law_1511 (w_ok (by omega) (by omega)) ?_
    refine a_sld (i + 1) dL_law_1512 (by omega) (by omega) ?_
    rw [ha1]
    refine a_aload_n (j := 0) dL_law_1513 rfl rfl (Nat.le_of_ble_eq_true rfl) ?_
    refine a_iload_n (j := 3) dL_law_1514 rfl rfl ?_
    refine a_iconst dL_law_1515 ⟨by decide, by decide⟩ ?_
    refine a_iadd (z := (((i : Nat) : Int) + 2)) dL_law_1516 (w_ok (by omega) (by omega)) ?_
    refine a_sld (i + 2) dL_law_1517 (by omega) (by omega) ?_
    rw [ha2]
    refine b_callV (d' := d - 1) (mc' := 0) (ms' := 0) (mc1 := mc) (ms1 := ms) (st := []) (b := 0) [vI ((s0 : Nat) : Int), vI a2] dL_law_1518 mwX8_item lkL_180 (by decide) rfl rc_X8 rfl (Nat.le_of_ble_eq_true rfl) (by omega) (by omega) (by omega) (c_X8_item (v1 := (h ((98 + 5 * s0) + 3) 1)) (v2 := (h 148 s0)) (v3 := (h (((98 + 5 * s0) + 3) + 1) (Int.toNat a2))) (by omega)  rfl l0 rfl (show Im ((s0 : Nat) : Int) 5 (0 ≤ (h ((98 + 5 * s0) + 3) 1) ∧ (h ((98 + 5 * s0) + 3) 1) ≤ 24) from fun _ _ => (by omega)) (fun t1_1_1 c21_2_1 c33_3_1 t44_4_1 c69_6_1 => ?_) (fun t1_1_1 c21_2_1 c33_3_1 t44_4_1 c69_6_1 => ?_) (fun t1_1_1 c21_2_1 c33_3_1 t44_4_1 => ?_) (fun t1_1_1 c21_2_1 c33_3_1 => ?_) (fun t1_1_1 c21_2_1 => ?_) (fun t1_1_1 => ?_))
    · have t1_1_1 : 0 ≤ ((s0 : Nat) : Int) ∧ ((s0 : Nat) : Int) ≤ 4 := t1_1_1
      have c21_2_1 : ¬ (h 148 s0) = 0 := c21_2_1
      have c33_3_1 : (h 148 s0) = 2 := c33_3_1
      have t44_4_1 : 0 ≤ a2 ∧ a2 < (h ((98 + 5 * s0) + 3) 1) := t44_4_1
      have c69_6_1 : ¬ (h (((98 + 5 * s0) + 3) + 1) (Int.toNat a2)) = (-1000000005) := c69_6_1
      show Aj γ mL_law d mc ms Post 1521 [(0, vK 0), (1, vA 0), (2, vA 123), (3, vI ((i : Nat) : Int))] [vI (h (((98 + 5 * s0) + 3) + 1) (Int.toNat a2))] (mk h τ)
      refine a_aload_n (j := 2) dL_law_1521 rfl rfl (Nat.le_of_ble_eq_true rfl) ?_
      refine a_aload_n (j := 0) dL_law_1522 rfl rfl (Nat.le_of_ble_eq_true rfl) ?_
      refine a_iload_n (j := 3) dL_law_1523 rfl rfl ?_
      refine a_iconst dL_law_1524 ⟨by decide, by decide⟩ ?_
      refine a_iadd (z := (((i : Nat) : Int) + 1)) dL_law_1525 (w_ok (by omega) (by omega)) ?_
      refine a_sld (i + 1) dL_law_1526 (by omega) (by omega) ?_
      rw [ha1]
      refine a_aload_n (j := 0) dL_law_1527 rfl rfl (Nat.le_of_ble_eq_true rfl) ?_
      refine a_iload_n (j := 3) dL_law_1528 rfl rfl ?_
      refine a_iconst dL_law_1529 ⟨by decide, by decide⟩ ?_
      refine a_iadd (z := (((i : Nat) : Int) + 2)) dL_law_1530 (w_ok (by omega) (by omega)) ?_
      refine a_sld (i + 2) dL_law_1531 (by omega) (by omega) ?_
      rw [ha2]
      refine b_callV (d' := d - 1) (mc' := 0) (ms' := 0) (mc1 := mc) (ms1 := ms) (st := [vI (h (((98 + 5 * s0) + 3) + 1) (Int.toNat a2))]) (b := 123) [vI ((s0 : Nat) : Int), vI a2] dL_law_1532 mwX9_item lkL_183 (by decide) rfl rc_X9 rfl (Nat.le_of_ble_eq_true rfl) (by omega) (by omega) (by omega) (c_X9_item (v1 := (h 148 s0)) (v2 := (h 149 s0)) (v3 := (h 151 (Int.toNat ((24 * ((s0 : Nat) : Int)) + a2)))) (by omega)  rfl rfl rfl (show Ip (0 ≤ ((s0 : Nat) : Int) ∧ ((s0 : Nat) : Int) ≤ 4 ∧ (h 148 s0) = 2) (0 ≤ (h 149 s0) ∧ (h 149 s0) ≤ 24) from fun _ => (by omega)) (fun t1_1_3 c16_3_3 c30_5_3 t46_7_3 c71_9_3 => ?_) (fun t1_1_3 c16_3_3 c30_5_3 t46_7_3 c71_9_3 => ?_) (fun t1_1_3 c16_3_3 c30_5_3 t46_7_3 => ?_) (fun t1_1_3 c16_3_3 c30_5_3 => ?_) (fun t1_1_3 c16_3_3 => ?_) (fun t1_1_3 => ?_))
      · have t1_1_3 : 0 ≤ ((s0 : Nat) : Int) ∧ ((s0 : Nat) : Int) ≤ 4 := t1_1_3
        have c16_3_3 : ¬ (h 148 s0) = 0 := c16_3_3
        have c30_5_3 : (h 148 s0) = 2 := c30_5_3
        have t46_7_3 : 0 ≤ a2 ∧ a2 ≤ ((h 149 s0) - 1) := t46_7_3
        have c71_9_3 : ¬ (h 151 (Int.toNat ((24 * ((s0 : Nat) : Int)) + a2))) = (-1000000005) := c71_9_3
        show Aj γ mL_law d mc ms Post 1535 [(0, vK 0), (1, vA 0), (2, vA 123), (3, vI ((i : Nat) : Int))] [vI (h 151 (Int.toNat ((24 * ((s0 : Nat) : Int)) + a2))), vI (h (((98 + 5 * s0) + 3) + 1) (Int.toNat a2))] (mk h τ)
        refine a_icmp_eq (tgt := 1668) dL_law_1535 (by decide) (fun c1535_5 => ?_) (fun c1535_5 => ?_)
        · exact kE h N J (IV_up (by omega) hI)
        · refine a_iconst dL_law_1538 ⟨by decide, by decide⟩ ?_
          exact a_zret dL_law_1539 rfl (by first | exact Or.inl rfl | exact Or.inr rfl | omega) (by exfalso; omega)
      · have t1_1_3 : 0 ≤ ((s0 : Nat) : Int) ∧ ((s0 : Nat) : Int) ≤ 4 := t1_1_3
        have c16_3_3 : ¬ (h 148 s0) = 0 := c16_3_3
        have c30_5_3 : (h 148 s0) = 2 := c30_5_3
        have t46_7_3 : 0 ≤ a2 ∧ a2 ≤ ((h 149 s0) - 1) := t46_7_3
        have c71_9_3 : (h 151 (Int.toNat ((24 * ((s0 : Nat) : Int)) + a2))) = (-1000000005) := c71_9_3
        show Aj γ mL_law d mc ms Post 1535 [(0, vK 0), (1, vA 0), (2, vA 123), (3, vI ((i : Nat) : Int))] [vI (-1000000012), vI (h (((98 + 5 * s0) + 3) + 1) (Int.toNat a2))] (mk h τ)
        refine a_icmp_eq (tgt := 1668) dL_law_1535 (by decide) (fun c1535_6 => ?_) (fun c1535_6 => ?_)
        · exact kE h N J (IV_up (by omega) hI)
        · refine a_iconst dL_law_1538 ⟨by decide, by decide⟩ ?_
          exact a_zret dL_law_1539 rfl (by first | exact Or.inl rfl | exact Or.inr rfl | omega) (by exfalso; omega)
      · have t1_1_3 : 0 ≤ ((s0 : Nat) : Int) ∧ ((s0 : Nat) : Int) ≤ 4 := t1_1_3
        have c16_3_3 : ¬ (h 148 s0) = 0 := c16_3_3
        have c30_5_3 : (h 148 s0) = 2 := c30_5_3
        have t46_7_3 : ¬ (0 ≤ a2 ∧ a2 ≤ ((h 149 s0) - 1)) := t46_7_3
        show Aj γ mL_law d mc ms Post 1535 [(0, vK 0), (1, vA 0), (2, vA 123), (3, vI ((i : Nat) : Int))] [vI (-1000000013), vI (h (((98 + 5 * s0) + 3) + 1) (Int.toNat a2))] (mk h τ)
        refine a_icmp_eq (tgt := 1668) dL_law_1535 (by decide) (fun c1535_7 => ?_) (fun c1535_7 => ?_)
        · exact kE h N J (IV_up (by omega) hI)
        · refine a_iconst dL_law_1538 ⟨by decide, by decide⟩ ?_
          exact a_zret dL_law_1539 rfl (by first | exact Or.inl rfl | exact Or.inr rfl | omega) (by exfalso; omega)
      · exfalso
        omega
      · exfalso
        omega
      · exfalso
        omega
    · have t1_1_1 : 0 ≤ ((s0 : Nat) : Int) ∧ ((s0 : Nat) : Int) ≤ 4 := t1_1_1
      have c21_2_1 : ¬ (h 148 s0) = 0 := c21_2_1
      have c33_3_1 : (h 148 s0) = 2 := c33_3_1
      have t44_4_1 : 0 ≤ a2 ∧ a2 < (h ((98 + 5 * s0) + 3) 1) := t44_4_1
      have c69_6_1 : (h (((98 + 5 * s0) + 3) + 1) (Int.toNat a2)) = (-1000000005) := c69_6_1
      show Aj γ mL_law d mc ms Post 1521 [(0, vK 0), (1, vA 0), (2, vA 123), (3, vI ((i : Nat) : Int))] [vI (-1000000012)] (mk h τ)
      refine a_aload_n (j := 2) dL_law_1521 rfl rfl (Nat.le_of_ble_eq_true rfl) ?_
      refine a_aload_n (j := 0) dL_law_1522 rfl rfl (Nat.le_of_ble_eq_true rfl) ?_
      refine a_iload_n (j := 3) dL_law_1523 rfl rfl ?_
      refine a_iconst dL_law_1524 ⟨by decide, by decide⟩ ?_
      refine a_iadd (z := (((i : Nat) : Int) + 1)) dL_law_1525 (w_ok (by omega) (by omega)) ?_
      refine a_sld (i + 1) dL_law_1526 (by omega) (by omega) ?_
      rw [ha1]
      refine a_aload_n (j := 0) dL_law_1527 rfl rfl (Nat.le_of_ble_eq_true rfl) ?_
      refine a_iload_n (j := 3) dL_law_1528 rfl rfl ?_
      refine a_iconst dL_law_1529 ⟨by decide, by decide⟩ ?_
      refine a_iadd (z := (((i : Nat) : Int) + 2)) dL_law_1530 (w_ok (by omega) (by omega)) ?_
      refine a_sld (i + 2) dL_law_1531 (by omega) (by omega) ?_
      rw [ha2]
      refine b_callV (d' := d - 1) (mc' := 0) (ms' := 0) (mc1 := mc) (ms1 := ms) (st := [vI (-1000000012)]) (b := 123) [vI ((s0 : Nat) : Int), vI a2] dL_law_1532 mwX9_item lkL_183 (by decide) rfl rc_X9 rfl (Nat.le_of_ble_eq_true rfl) (by omega) (by omega) (by omega) (c_X9_item (v1 := (h 148 s0)) (v2 := (h 149 s0)) (v3 := (h 151 (Int.toNat ((24 * ((s0 : Nat) : Int)) + a2)))) (by omega)  rfl rfl rfl (show Ip (0 ≤ ((s0 : Nat) : Int) ∧ ((s0 : Nat) : Int) ≤ 4 ∧ (h 148 s0) = 2) (0 ≤ (h 149 s0) ∧ (h 149 s0) ≤ 24) from fun _ => (by omega)) (fun t1_1_8 c16_3_8 c30_5_8 t46_7_8 c71_9_8 => ?_) (fun t1_1_8 c16_3_8 c30_5_8 t46_7_8 c71_9_8 => ?_) (fun t1_1_8 c16_3_8 c30_5_8 t46_7_8 => ?_) (fun t1_1_8 c16_3_8 c30_5_8 => ?_) (fun t1_1_8 c16_3_8 => ?_) (fun t1_1_8 => ?_))
      · have t1_1_8 : 0 ≤ ((s0 : Nat) : Int) ∧ ((s0 : Nat) : Int) ≤ 4 := t1_1_8
        have c16_3_8 : ¬ (h 148 s0) = 0 := c16_3_8
        have c30_5_8 : (h 148 s0) = 2 := c30_5_8
        have t46_7_8 : 0 ≤ a2 ∧ a2 ≤ ((h 149 s0) - 1) := t46_7_8
        have c71_9_8 : ¬ (h 151 (Int.toNat ((24 * ((s0 : Nat) : Int)) + a2))) = (-1000000005) := c71_9_8
        show Aj γ mL_law d mc ms Post 1535 [(0, vK 0), (1, vA 0), (2, vA 123), (3, vI ((i : Nat) : Int))] [vI (h 151 (Int.toNat ((24 * ((s0 : Nat) : Int)) + a2))), vI (-1000000012)] (mk h τ)
        refine a_icmp_eq (tgt := 1668) dL_law_1535 (by decide) (fun c1535_10 => ?_) (fun c1535_10 => ?_)
        · exact kE h N J (IV_up (by omega) hI)
        · refine a_iconst dL_law_1538 ⟨by decide, by decide⟩ ?_
          exact a_zret dL_law_1539 rfl (by first | exact Or.inl rfl | exact Or.inr rfl | omega) (by exfalso; omega)
      · have t1_1_8 : 0 ≤ ((s0 : Nat) : Int) ∧ ((s0 : Nat) : Int) ≤ 4 := t1_1_8
        have c16_3_8 : ¬ (h 148 s0) = 0 := c16_3_8
        have c30_5_8 : (h 148 s0) = 2 := c30_5_8
        have t46_7_8 : 0 ≤ a2 ∧ a2 ≤ ((h 149 s0) - 1) := t46_7_8
        have c71_9_8 : (h 151 (Int.toNat ((24 * ((s0 : Nat) : Int)) + a2))) = (-1000000005) := c71_9_8
        show Aj γ mL_law d mc ms Post 1535 [(0, vK 0), (1, vA 0), (2, vA 123), (3, vI ((i : Nat) : Int))] [vI (-1000000012), vI (-1000000012)] (mk h τ)
        refine a_icmp_eq (tgt := 1668) dL_law_1535 (by decide) (fun _ => ?_) (fun c => absurd c (by decide))
        exact kE h N J (IV_up (by omega) hI)
      · have t1_1_8 : 0 ≤ ((s0 : Nat) : Int) ∧ ((s0 : Nat) : Int) ≤ 4 := t1_1_8
        have c16_3_8 : ¬ (h 148 s0) = 0 := c16_3_8
        have c30_5_8 : (h 148 s0) = 2 := c30_5_8
        have t46_7_8 : ¬ (0 ≤ a2 ∧ a2 ≤ ((h 149 s0) - 1)) := t46_7_8
        show Aj γ mL_law d mc ms Post 1535 [(0, vK 0), (1, vA 0), (2, vA 123), (3, vI ((i : Nat) : Int))] [vI (-1000000013), vI (-1000000012)] (mk h τ)
        refine a_icmp_eq (tgt := 1668) dL_law_1535 (by decide) (fun c => absurd c (by decide)) (fun _ => ?_)
        refine a_iconst dL_law_1538 ⟨by decide, by decide⟩ ?_
        exact a_zret dL_law_1539 rfl (by first | exact Or.inl rfl | exact Or.inr rfl | omega) (by exfalso; omega)
      · exfalso
        omega
      · exfalso
        omega
      · exfalso
        omega
    · have t1_1_1 : 0 ≤ ((s0 : Nat) : Int) ∧ ((s0 : Nat) : Int) ≤ 4 := t1_1_1
      have c21_2_1 : ¬ (h 148 s0) = 0 := c21_2_1
      have c33_3_1 : (h 148 s0) = 2 := c33_3_1
      have t44_4_1 : ¬ (0 ≤ a2 ∧ a2 < (h ((98 + 5 * s0) + 3) 1)) := t44_4_1
      show Aj γ mL_law d mc ms Post 1521 [(0, vK 0), (1, vA 0), (2, vA 123), (3, vI ((i : Nat) : Int))] [vI (-1000000013)] (mk h τ)
      refine a_aload_n (j := 2) dL_law_1521 rfl rfl (Nat.le_of_ble_eq_true rfl) ?_
      refine a_aload_n (j := 0) dL_law_1522 rfl rfl (Nat.le_of_ble_eq_true rfl) ?_
      refine a_iload_n (j := 3) dL_law_1523 rfl rfl ?_
      refine a_iconst dL_law_1524 ⟨by decide, by decide⟩ ?_
      refine a_iadd (z := (((i : Nat) : Int) + 1)) dL_law_1525 (w_ok (by omega) (by omega)) ?_
      refine a_sld (i + 1) dL_law_1526 (by omega) (by omega) ?_
      rw [ha1]
      refine a_aload_n (j := 0) dL_law_1527 rfl rfl (Nat.le_of_ble_eq_true rfl) ?_
      refine a_iload_n (j := 3) dL_law_1528 rfl rfl ?_
      refine a_iconst dL_law_1529 ⟨by decide, by decide⟩ ?_
      refine a_iadd (z := (((i : Nat) : Int) + 2)) dL_law_1530 (w_ok (by omega) (by omega)) ?_
      refine a_sld (i + 2) dL_law_1531 (by omega) (by omega) ?_
      rw [ha2]
      refine b_callV (d' := d - 1) (mc' := 0) (ms' := 0) (mc1 := mc) (ms1 := ms) (st := [vI (-1000000013)]) (b := 123) [vI ((s0 : Nat) : Int), vI a2] dL_law_1532 mwX9_item lkL_183 (by decide) rfl rc_X9 rfl (Nat.le_of_ble_eq_true rfl) (by omega) (by omega) (by omega) (c_X9_item (v1 := (h 148 s0)) (v2 := (h 149 s0)) (v3 := (h 151 (Int.toNat ((24 * ((s0 : Nat) : Int)) + a2)))) (by omega)  rfl rfl rfl (show Ip (0 ≤ ((s0 : Nat) : Int) ∧ ((s0 : Nat) : Int) ≤ 4 ∧ (h 148 s0) = 2) (0 ≤ (h 149 s0) ∧ (h 149 s0) ≤ 24) from fun _ => (by omega)) (fun t1_1_11 c16_3_11 c30_5_11 t46_7_11 c71_9_11 => ?_) (fun t1_1_11 c16_3_11 c30_5_11 t46_7_11 c71_9_11 => ?_) (fun t1_1_11 c16_3_11 c30_5_11 t46_7_11 => ?_) (fun t1_1_11 c16_3_11 c30_5_11 => ?_) (fun t1_1_11 c16_3_11 => ?_) (fun t1_1_11 => ?_))
      · have t1_1_11 : 0 ≤ ((s0 : Nat) : Int) ∧ ((s0 : Nat) : Int) ≤ 4 := t1_1_11
        have c16_3_11 : ¬ (h 148 s0) = 0 := c16_3_11
        have c30_5_11 : (h 148 s0) = 2 := c30_5_11
        have t46_7_11 : 0 ≤ a2 ∧ a2 ≤ ((h 149 s0) - 1) := t46_7_11
        have c71_9_11 : ¬ (h 151 (Int.toNat ((24 * ((s0 : Nat) : Int)) + a2))) = (-1000000005) := c71_9_11
        show Aj γ mL_law d mc ms Post 1535 [(0, vK 0), (1, vA 0), (2, vA 123), (3, vI ((i : Nat) : Int))] [vI (h 151 (Int.toNat ((24 * ((s0 : Nat) : Int)) + a2))), vI (-1000000013)] (mk h τ)
        refine a_icmp_eq (tgt := 1668) dL_law_1535 (by decide) (fun c1535_13 => ?_) (fun c1535_13 => ?_)
        · exact kE h N J (IV_up (by omega) hI)
        · refine a_iconst dL_law_1538 ⟨by decide, by decide⟩ ?_
          exact a_zret dL_law_1539 rfl (by first | exact Or.inl rfl | exact Or.inr rfl | omega) (by exfalso; omega)
      · have t1_1_11 : 0 ≤ ((s0 : Nat) : Int) ∧ ((s0 : Nat) : Int) ≤ 4 := t1_1_11
        have c16_3_11 : ¬ (h 148 s0) = 0 := c16_3_11
        have c30_5_11 : (h 148 s0) = 2 := c30_5_11
        have t46_7_11 : 0 ≤ a2 ∧ a2 ≤ ((h 149 s0) - 1) := t46_7_11
        have c71_9_11 : (h 151 (Int.toNat ((24 * ((s0 : Nat) : Int)) + a2))) = (-1000000005) := c71_9_11
        show Aj γ mL_law d mc ms Post 1535 [(0, vK 0), (1, vA 0), (2, vA 123), (3, vI ((i : Nat) : Int))] [vI (-1000000012), vI (-1000000013)] (mk h τ)
        refine a_icmp_eq (tgt := 1668) dL_law_1535 (by decide) (fun c => absurd c (by decide)) (fun _ => ?_)
        refine a_iconst dL_law_1538 ⟨by decide, by decide⟩ ?_
        exact a_zret dL_law_1539 rfl (by first | exact Or.inl rfl | exact Or.inr rfl | omega) (by exfalso; omega)
      · have t1_1_11 : 0 ≤ ((s0 : Nat) : Int) ∧ ((s0 : Nat) : Int) ≤ 4 := t1_1_11
        have c16_3_11 : ¬ (h 148 s0) = 0 := c16_3_11
        have c30_5_11 : (h 148 s0) = 2 := c30_5_11
        have t46_7_11 : ¬ (0 ≤ a2 ∧ a2 ≤ ((h 149 s0) - 1)) := t46_7_11
        show Aj γ mL_law d mc ms Post 1535 [(0, vK 0), (1, vA 0), (2, vA 123), (3, vI ((i : Nat) : Int))] [vI (-1000000013), vI (-1000000013)] (mk h τ)
        refine a_icmp_eq (tgt := 1668) dL_law_1535 (by decide) (fun _ => ?_) (fun c => absurd c (by decide))
        exact kE h N J (IV_up (by omega) hI)
      · exfalso
        omega
      · exfalso
        omega
      · exfalso
        omega
    · have t1_1_1 : 0 ≤ ((s0 : Nat) : Int) ∧ ((s0 : Nat) : Int) ≤ 4 := t1_1_1
      have c21_2_1 : ¬ (h 148 s0) = 0 := c21_2_1
      have c33_3_1 : ¬ (h 148 s0) = 2 := c33_3_1
      show Aj γ mL_law d mc ms Post 1521 [(0, vK 0), (1, vA 0), (2, vA 123), (3, vI ((i : Nat) : Int))] [vI (-1000000012)] (mk h τ)
      refine a_aload_n (j := 2) dL_law_1521 rfl rfl (Nat.le_of_ble_eq_true rfl) ?_
      refine a_aload_n (j := 0) dL_law_1522 rfl rfl (Nat.le_of_ble_eq_true rfl) ?_
      refine a_iload_n (j := 3) dL_law_1523 rfl rfl ?_
      refine a_iconst dL_law_1524 ⟨by decide, by decide⟩ ?_
      refine a_iadd (z := (((i : Nat) : Int) + 1)) dL_law_1525 (w_ok (by omega) (by omega)) ?_
      refine a_sld (i + 1) dL_law_1526 (by omega) (by omega) ?_
      rw [ha1]
      refine a_aload_n (j := 0) dL_law_1527 rfl rfl (Nat.le_of_ble_eq_true rfl) ?_
      refine a_iload_n (j := 3) dL_law_1528 rfl rfl ?_
      refine a_iconst dL_law_1529 ⟨by decide, by decide⟩ ?_
      refine a_iadd (z := (((i : Nat) : Int) + 2)) dL_law_1530 (w_ok (by omega) (by omega)) ?_
      refine a_sld (i + 2) dL_law_1531 (by omega) (by omega) ?_
      rw [ha2]
      refine b_callV (d' := d - 1) (mc' := 0) (ms' := 0) (mc1 := mc) (ms1 := ms) (st := [vI (-1000000012)]) (b := 123) [vI ((s0 : Nat) : Int), vI a2] dL_law_1532 mwX9_item lkL_183 (by decide) rfl rc_X9 rfl (Nat.le_of_ble_eq_true rfl) (by omega) (by omega) (by omega) (c_X9_item (v1 := (h 148 s0)) (v2 := (h 149 s0)) (v3 := (h 151 (Int.toNat ((24 * ((s0 : Nat) : Int)) + a2)))) (by omega)  rfl rfl rfl (show Ip (0 ≤ ((s0 : Nat) : Int) ∧ ((s0 : Nat) : Int) ≤ 4 ∧ (h 148 s0) = 2) (0 ≤ (h 149 s0) ∧ (h 149 s0) ≤ 24) from fun _ => (by omega)) (fun t1_1_14 c16_3_14 c30_5_14 t46_7_14 c71_9_14 => ?_) (fun t1_1_14 c16_3_14 c30_5_14 t46_7_14 c71_9_14 => ?_) (fun t1_1_14 c16_3_14 c30_5_14 t46_7_14 => ?_) (fun t1_1_14 c16_3_14 c30_5_14 => ?_) (fun t1_1_14 c16_3_14 => ?_) (fun t1_1_14 => ?_))
      · exfalso
        omega
      · exfalso
        omega
      · exfalso
        omega
      · have t1_1_14 : 0 ≤ ((s0 : Nat) : Int) ∧ ((s0 : Nat) : Int) ≤ 4 := t1_1_14
        have c16_3_14 : ¬ (h 148 s0) = 0 := c16_3_14
        have c30_5_14 : ¬ (h 148 s0) = 2 := c30_5_14
        show Aj γ mL_law d mc ms Post 1535 [(0, vK 0), (1, vA 0), (2, vA 123), (3, vI ((i : Nat) : Int))] [vI (-1000000012), vI (-1000000012)] (mk h τ)
        refine a_icmp_eq (tgt := 1668) dL_law_1535 (by decide) (fun _ => ?_) (fun c => absurd c (by decide))
        exact kE h N J (IV_up (by omega) hI)
      · exfalso
        omega
      · exfalso
        omega
    · have t1_1_1 : 0 ≤ ((s0 : Nat) : Int) ∧ ((s0 : Nat) : Int) ≤ 4 := t1_1_1
      have c21_2_1 : (h 148 s0) = 0 := c21_2_1
      show Aj γ mL_law d mc ms Post 1521 [(0, vK 0), (1, vA 0), (2, vA 123), (3, vI ((i : Nat) : Int))] [vI (-1000000011)] (mk h τ)
      refine a_aload_n (j := 2) dL_law_1521 rfl rfl (Nat.le_of_ble_eq_true rfl) ?_
      refine a_aload_n (j := 0) dL_law_1522 rfl rfl (Nat.le_of_ble_eq_true rfl) ?_
      refine a_iload_n (j := 3) dL_law_1523 rfl rfl ?_
      refine a_iconst dL_law_1524 ⟨by decide, by decide⟩ ?_
      refine a_iadd (z := (((i : Nat) : Int) + 1)) dL_law_1525 (w_ok (by omega) (by omega)) ?_
      refine a_sld (i + 1) dL_law_1526 (by omega) (by omega) ?_
      rw [ha1]
      refine a_aload_n (j := 0) dL_law_1527 rfl rfl (Nat.le_of_ble_eq_true rfl) ?_
      refine a_iload_n (j := 3) dL_law_1528 rfl rfl ?_
      refine a_iconst dL_law_1529 ⟨by decide, by decide⟩ ?_
      refine a_iadd (z := (((i : Nat) : Int) + 2)) dL_law_1530 (w_ok (by omega) (by omega)) ?_
      refine a_sld (i + 2) dL_law_1531 (by omega) (by omega) ?_
      rw [ha2]
      refine b_callV (d' := d - 1) (mc' := 0) (ms' := 0) (mc1 := mc) (ms1 := ms) (st := [vI (-1000000011)]) (b := 123) [vI ((s0 : Nat) : Int), vI a2] dL_law_1532 mwX9_item lkL_183 (by decide) rfl rc_X9 rfl (Nat.le_of_ble_eq_true rfl) (by omega) (by omega) (by omega) (c_X9_item (v1 := (h 148 s0)) (v2 := (h 149 s0)) (v3 := (h 151 (Int.toNat ((24 * ((s0 : Nat) : Int)) + a2)))) (by omega)  rfl rfl rfl (show Ip (0 ≤ ((s0 : Nat) : Int) ∧ ((s0 : Nat) : Int) ≤ 4 ∧ (h 148 s0) = 2) (0 ≤ (h 149 s0) ∧ (h 149 s0) ≤ 24) from fun _ => (by omega)) (fun t1_1_16 c16_3_16 c30_5_16 t46_7_16 c71_9_16 => ?_) (fun t1_1_16 c16_3_16 c30_5_16 t46_7_16 c71_9_16 => ?_) (fun t1_1_16 c16_3_16 c30_5_16 t46_7_16 => ?_) (fun t1_1_16 c16_3_16 c30_5_16 => ?_) (fun t1_1_16 c16_3_16 => ?_) (fun t1_1_16 => ?_))
      · exfalso
        omega
      · exfalso
        omega
      · exfalso
        omega
      · exfalso
        omega
      · have t1_1_16 : 0 ≤ ((s0 : Nat) : Int) ∧ ((s0 : Nat) : Int) ≤ 4 := t1_1_16
        have c16_3_16 : (h 148 s0) = 0 := c16_3_16
        show Aj γ mL_law d mc ms Post 1535 [(0, vK 0), (1, vA 0), (2, vA 123), (3, vI ((i : Nat) : Int))] [vI (-1000000011), vI (-1000000011)] (mk h τ)
        refine a_icmp_eq (tgt := 1668) dL_law_1535 (by decide) (fun _ => ?_) (fun c => absurd c (by decide))
        exact kE h N J (IV_up (by omega) hI)
      · exfalso
        omega
    · exfalso
      omega
