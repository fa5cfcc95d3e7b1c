set_option maxHeartbeats 16000000 in
theorem s_ask {γ : GT} {d mc ms n i : Nat} {N J : Nat → Int} {h : Nat → Nat → Int} {τ : List AC} {Post : Option AV → List AC → Prop} (hd : 30 ≤ d) (hn : n < 64) (hi : i + 5 < g_L γ) (hL : g_L γ ≤ 384) (hI : IVp n h τ N J) (kE : ∀ h' N' J', IVp (n + 1) h' τ N' J' → Aj γ mL_law d mc ms Post 1668 [(0, vK 0), (1, vA 0), (2, vA 123), (3, vI ((i : Nat) : Int))] [] (mk h' τ)) : Aj γ mL_law d mc ms Post 1474 [(0, vK 0), (1, vA 0), (2, vA 123), (3, vI ((i : Nat) : Int))] [] (mk h τ) := by
  obtain ⟨hN, hJ, hX, hR, hk, hkK, hC, hRC, hst, hO⟩ := id hI
  have hsc := hX.1.1
  have hs1 := hsc.1
  have hs2 := hsc.2.1
  have hs3 := hsc.2.2.1
  have hs4 := hsc.2.2.2.1
  have hs5 := hsc.2.2.2.2
  have hs6 := hX.1.2.2.2.1
  have hx7 := hX.2.1
  have hx8 := hX.2.2.2.1
  obtain ⟨a1, ha1⟩ : ∃ z, (g_x γ (i + 1)).toInt = z := ⟨_, rfl⟩
  have ra1 : inI a1 := ha1 ▸ i32_rng _
  unfold inI at ra1
  obtain ⟨a2, ha2⟩ : ∃ z, (g_x γ (i + 2)).toInt = z := ⟨_, rfl⟩
  have ra2 : inI a2 := ha2 ▸ i32_rng _
  unfold inI at ra2
  obtain ⟨s0, hs0⟩ : ∃ z : Nat, z = Int.toNat a1 := ⟨_, rfl⟩
  rcases (show ¬ (0 ≤ a1 ∧ a1 ≤ 4) ∨ ((0 ≤ a1 ∧ a1 ≤ 4) ∧ h 148 s0 = 1) ∨ ((0 ≤ a1 ∧ a1 ≤ 4) ∧ ¬ h 148 s0 = 1) by omega) with hin | hin | hin
  · skip
    refine a_aload_n (j := 1) dL_law_1474 rfl rfl (Nat.le_of_ble_eq_true rfl) ?_
    refine a_aload_n (j := 0) dL_law_1475 rfl rfl (Nat.le_of_ble_eq_true rfl) ?_
    refine a_iload_n (j := 3) dL_law_1476 rfl rfl ?_
    refine a_iconst dL_law_1477 ⟨by decide, by decide⟩ ?_
    refine a_iadd (z := (((i : Nat) : Int) + 1)) dL_law_1478 (w_ok (by omega) (by omega)) ?_
    refine a_sld (i + 1) dL_law_1479 (by omega) (by omega) ?_
    rw [ha1]
    refine a_aload_n (j := 0) dL_law_1480 rfl rfl (Nat.le_of_ble_eq_true rfl) ?_
    refine a_iload_n (j := 3) dL_law_1481 rfl rfl ?_
    refine a_iconst dL_law_1482 ⟨by decide, by decide⟩ ?_
    refine a_iadd (z := (((i : Nat) : Int) + 2)) dL_law_1483 (w_ok (by omega) (by omega)) ?_
    refine a_sld (i + 2) dL_law_1484 (by omega) (by omega) ?_
    rw [ha2]
    refine b_callV (d' := d - 1) (mc' := 0) (ms' := 0) (mc1 := mc) (ms1 := ms) (st := []) (b := 0) [vI a1, vI a2] dL_law_1485 mwX8_ask lkL_176 (by decide) rfl rc_X8 rfl (Nat.le_of_ble_eq_true rfl) (by omega) (by omega) (by omega) (c_X8_ask (v1 := (h (98 + 5 * (Int.toNat a1)) 0)) (v2 := (h ((98 + 5 * (Int.toNat a1)) + 1) 0)) (v3 := (h ((98 + 5 * (Int.toNat a1)) + 1) 5)) (by omega)  rfl rfl rfl (show Ip (0 ≤ a1 ∧ a1 ≤ 4 ∧ (h (98 + 5 * (Int.toNat a1)) 0) = 1) (0 ≤ (h ((98 + 5 * (Int.toNat a1)) + 1) 0) ∧ (h ((98 + 5 * (Int.toNat a1)) + 1) 0) ≤ 5 ∧ 0 ≤ (h ((98 + 5 * (Int.toNat a1)) + 1) 5) ∧ (h ((98 + 5 * (Int.toNat a1)) + 1) 5) ≤ 999) from fun _ => (by omega)) (fun t1_1_1 t8_2_1 c28_3_1 c40_4_1 => ?_) (fun t1_1_1 t8_2_1 c28_3_1 c40_4_1 t51_5_1 => ?_) (fun t1_1_1 t8_2_1 c28_3_1 c40_4_1 t51_5_1 => ?_) (fun t1_1_1 t8_2_1 c28_3_1 => ?_) (fun t1_1_1 t8_2_1 => ?_) (fun t1_1_1 => ?_))
    · exfalso
      omega
    · exfalso
      omega
    · exfalso
      omega
    · exfalso
      omega
    · exfalso
      omega
    · have t1_1_1 : ¬ (0 ≤ a1 ∧ a1 ≤ 4) := t1_1_1
      show Aj γ mL_law d mc ms Post 1488 [(0, vK 0), (1, vA 0), (2, vA 123), (3, vI ((i : Nat) : Int))] [vI (-1000000001)] (mk h τ)
      refine a_aload_n (j := 2) dL_law_1488 rfl rfl (Nat.le_of_ble_eq_true rfl) ?_
      refine a_aload_n (j := 0) dL_law_1489 rfl rfl (Nat.le_of_ble_eq_true rfl) ?_
      refine a_iload_n (j := 3) dL_law_1490 rfl rfl ?_
      refine a_iconst dL_law_1491 ⟨by decide, by decide⟩ ?_
      refine a_iadd (z := (((i : Nat) : Int) + 1)) dL_law_1492 (w_ok (by omega) (by omega)) ?_
      refine a_sld (i + 1) dL_law_1493 (by omega) (by omega) ?_
      rw [ha1]
      refine a_aload_n (j := 0) dL_law_1494 rfl rfl (Nat.le_of_ble_eq_true rfl) ?_
      refine a_iload_n (j := 3) dL_law_1495 rfl rfl ?_
      refine a_iconst dL_law_1496 ⟨by decide, by decide⟩ ?_
      refine a_iadd (z := (((i : Nat) : Int) + 2)) dL_law_1497 (w_ok (by omega) (by omega)) ?_
      refine a_sld (i + 2) dL_law_1498 (by omega) (by omega) ?_
      rw [ha2]
      refine b_callV (d' := d - 1) (mc' := 0) (ms' := 0) (mc1 := mc) (ms1 := ms) (st := [vI (-1000000001)]) (b := 123) [vI a1, vI a2] dL_law_1499 mwX9_ask lkL_179 (by decide) rfl rc_X9 rfl (Nat.le_of_ble_eq_true rfl) (by omega) (by omega) (by omega) (c_X9_ask (v1 := (h 148 (Int.toNat a1))) (v2 := (h 149 (Int.toNat a1))) (v3 := (h 150 (Int.toNat a1))) (by omega)  rfl rfl rfl  (fun t1_1_3 t10_2_3 c25_4_3 c39_6_3 => ?_) (fun t1_1_3 t10_2_3 c25_4_3 c39_6_3 t49_8_3 => ?_) (fun t1_1_3 t10_2_3 c25_4_3 c39_6_3 t49_8_3 => ?_) (fun t1_1_3 t10_2_3 c25_4_3 => ?_) (fun t1_1_3 t10_2_3 => ?_) (fun t1_1_3 => ?_))
      · exfalso
        omega
      · exfalso
        omega
      · exfalso
        omega
      · exfalso
        omega
      · exfalso
        omega
      · have t1_1_3 : ¬ (0 ≤ a1 ∧ a1 ≤ 4) := t1_1_3
        show Aj γ mL_law d mc ms Post 1502 [(0, vK 0), (1, vA 0), (2, vA 123), (3, vI ((i : Nat) : Int))] [vI (-1000000001), vI (-1000000001)] (mk h τ)
        refine a_icmp_eq (tgt := 1668) dL_law_1502 (by decide) (fun _ => ?_) (fun c => absurd c (by decide))
        exact kE h N J (IV_up (by omega) hI)
  · obtain rfl : a1 = ((s0 : Nat) : Int) := by omega
    obtain ⟨l0, l1, l2, l3, l4, l5⟩ := hO.2.2.1 s0 (by omega)
    obtain ⟨lt1, lt2, lt3, lt4⟩ := l2 hin.2
    refine a_aload_n (j := 1) dL_law_1474 rfl rfl (Nat.le_of_ble_eq_true rfl) ?_
    refine a_aload_n (j := 0) dL_law_1475 rfl rfl (Nat.le_of_ble_eq_true rfl) ?_
    refine a_iload_n (j := 3) dL_law_1476 rfl rfl ?_
    refine a_iconst dL_law_1477 ⟨by decide, by decide⟩ ?_
    refine a_iadd (z := (((i : Nat) : Int) + 1)) dL_law_1478 (w_ok (by omega) (by omega)) ?_
    refine a_sld (i + 1) dL_law_1479 (by omega) (by omega) ?_
    rw [ha1]
    refine a_aload_n (j := 0) dL_law_1480 rfl rfl (Nat.le_of_ble_eq_true rfl) ?_
    refine a_iload_n (j := 3) dL_law_1481 rfl rfl ?_
    refine a_iconst dL_law_1482 ⟨by decide, by decide⟩ ?_
    refine a_iadd (z := (((i : Nat) : Int) + 2)) dL_law_1483 (w_ok (by omega) (by omega)) ?_
    refine a_sld (i + 2) dL_law_1484 (by omega) (by omega) ?_
    rw [ha2]
    refine b_callV (d' := d - 1) (mc' := 0) (ms' := 0) (mc1 := mc) (ms1 := ms) (st := []) (b := 0) [vI ((s0 : Nat) : Int), vI a2] dL_law_1485 mwX8_ask lkL_176 (by decide) rfl rc_X8 rfl (Nat.le_of_ble_eq_true rfl) (by omega) (by omega) (by omega) (c_X8_ask (v1 := (h 148 s0)) (v2 := (h 149 s0)) (v3 := (h ((98 + 5 * s0) + 1) 5)) (by omega)  l0 lt1 rfl (show Ip (0 ≤ ((s0 : Nat) : Int) ∧ ((s0 : Nat) : Int) ≤ 4 ∧ (h 148 s0) = 1) (0 ≤ (h 149 s0) ∧ (h 149 s0) ≤ 5 ∧ 0 ≤ (h ((98 + 5 * s0) + 1) 5) ∧ (h ((98 + 5 * s0) + 1) 5) ≤ 999) from fun _ => (by omega)) (fun t1_1_1 t8_2_1 c28_3_1 c40_4_1 => ?_) (fun t1_1_1 t8_2_1 c28_3_1 c40_4_1 t51_5_1 => ?_) (fun t1_1_1 t8_2_1 c28_3_1 c40_4_1 t51_5_1 => ?_) (fun t1_1_1 t8_2_1 c28_3_1 => ?_) (fun t1_1_1 t8_2_1 => ?_) (fun t1_1_1 => ?_))
    · have t1_1_1 : 0 ≤ ((s0 : Nat) : Int) ∧ ((s0 : Nat) : Int) ≤ 4 := t1_1_1
      have t8_2_1 : 0 ≤ a2 ∧ a2 ≤ 5 := t8_2_1
      have c28_3_1 : ¬ (h 148 s0) = 0 := c28_3_1
      have c40_4_1 : ¬ (h 148 s0) = 1 := c40_4_1
      show Aj γ mL_law d mc ms Post 1488 [(0, vK 0), (1, vA 0), (2, vA 123), (3, vI ((i : Nat) : Int))] [vI (-1000000012)] (mk h τ)
      refine a_aload_n (j := 2) dL_law_1488 rfl rfl (Nat.le_of_ble_eq_true rfl) ?_
      refine a_aload_n (j := 0) dL_law_1489 rfl rfl (Nat.le_of_ble_eq_true rfl) ?_
      refine a_iload_n (j := 3) dL_law_1490 rfl rfl ?_
      refine a_iconst dL_law_1491 ⟨by decide, by decide⟩ ?_
      refine a_iadd (z := (((i : Nat) : Int) + 1)) dL_law_1492 (w_ok (by omega) (by omega)) ?_
      refine a_sld (i + 1) dL_law_1493 (by omega) (by omega) ?_
      rw [ha1]
      refine a_aload_n (j := 0) dL_law_1494 rfl rfl (Nat.le_of_ble_eq_true rfl) ?_
      refine a_iload_n (j := 3) dL_law_1495 rfl rfl ?_
      refine a_iconst dL_law_1496 ⟨by decide, by decide⟩ ?_
      refine a_iadd (z := (((i : Nat) : Int) + 2)) dL_law_1497 (w_ok (by omega) (by omega)) ?_
      refine a_sld (i + 2) dL_law_1498 (by omega) (by omega) ?_
      rw [ha2]
      refine b_callV (d' := d - 1) (mc' := 0) (ms' := 0) (mc1 := mc) (ms1 := ms) (st := [vI (-1000000012)]) (b := 123) [vI ((s0 : Nat) : Int), vI a2] dL_law_1499 mwX9_ask lkL_179 (by decide) rfl rc_X9 rfl (Nat.le_of_ble_eq_true rfl) (by omega) (by omega) (by omega) (c_X9_ask (v1 := (h 148 s0)) (v2 := (h 149 s0)) (v3 := (h 150 s0)) (by omega)  rfl rfl rfl  (fun t1_1_3 t10_2_3 c25_4_3 c39_6_3 => ?_) (fun t1_1_3 t10_2_3 c25_4_3 c39_6_3 t49_8_3 => ?_) (fun t1_1_3 t10_2_3 c25_4_3 c39_6_3 t49_8_3 => ?_) (fun t1_1_3 t10_2_3 c25_4_3 => ?_) (fun t1_1_3 t10_2_3 => ?_) (fun t1_1_3 => ?_))
      · have t1_1_3 : 0 ≤ ((s0 : Nat) : Int) ∧ ((s0 : Nat) : Int) ≤ 4 := t1_1_3
        have t10_2_3 : 0 ≤ a2 ∧ a2 ≤ 5 := t10_2_3
        have c25_4_3 : ¬ (h 148 s0) = 0 := c25_4_3
        have c39_6_3 : ¬ (h 148 s0) = 1 := c39_6_3
        show Aj γ mL_law d mc ms Post 1502 [(0, vK 0), (1, vA 0), (2, vA 123), (3, vI ((i : Nat) : Int))] [vI (-1000000012), vI (-1000000012)] (mk h τ)
        refine a_icmp_eq (tgt := 1668) dL_law_1502 (by decide) (fun _ => ?_) (fun c => absurd c (by decide))
        exact kE h N J (IV_up (by omega) hI)
      · exfalso
        omega
      · exfalso
        omega
      · exfalso
        omega
      · exfalso
        omega
      · exfalso
        omega
    · have t1_1_1 : 0 ≤ ((s0 : Nat) : Int) ∧ ((s0 : Nat) : Int) ≤ 4 := t1_1_1
      have t8_2_1 : 0 ≤ a2 ∧ a2 ≤ 5 := t8_2_1
      have c28_3_1 : ¬ (h 148 s0) = 0 := c28_3_1
      have c40_4_1 : (h 148 s0) = 1 := c40_4_1
      have t51_5_1 : (a2 = 0 ∨ (h 149 s0) = a2 ∨ (a2 = 1 ∧ (h 149 s0) = 3) ∨ (a2 = 2 ∧ (h 149 s0) = 4)) := t51_5_1
      show Aj γ mL_law d mc ms Post 1488 [(0, vK 0), (1, vA 0), (2, vA 123), (3, vI ((i : Nat) : Int))] [vI (farF (h 149 s0) (h ((98 + 5 * s0) + 1) 5))] (mk h τ)
      refine a_aload_n (j := 2) dL_law_1488 rfl rfl (Nat.le_of_ble_eq_true rfl) ?_
      refine a_aload_n (j := 0) dL_law_1489 rfl rfl (Nat.le_of_ble_eq_true rfl) ?_
      refine a_iload_n (j := 3) dL_law_1490 rfl rfl ?_
      refine a_iconst dL_law_1491 ⟨by decide, by decide⟩ ?_
      refine a_iadd (z := (((i : Nat) : Int) + 1)) dL_law_1492 (w_ok (by omega) (by omega)) ?_
      refine a_sld (i + 1) dL_law_1493 (by omega) (by omega) ?_
      rw [ha1]
      refine a_aload_n (j := 0) dL_law_1494 rfl rfl (Nat.le_of_ble_eq_true rfl) ?_
      refine a_iload_n (j := 3) dL_law_1495 rfl rfl ?_
      refine a_iconst dL_law_1496 ⟨by decide, by decide⟩ ?_
      refine a_iadd (z := (((i : Nat) : Int) + 2)) dL_law_1497 (w_ok (by omega) (by omega)) ?_
      refine a_sld (i + 2) dL_law_1498 (by omega) (by omega) ?_
      rw [ha2]
      refine b_callV (d' := d - 1) (mc' := 0) (ms' := 0) (mc1 := mc) (ms1 := ms) (st := [vI (farF (h 149 s0) (h ((98 + 5 * s0) + 1) 5))]) (b := 123) [vI ((s0 : Nat) : Int), vI a2] dL_law_1499 mwX9_ask lkL_179 (by decide) rfl rc_X9 rfl (Nat.le_of_ble_eq_true rfl) (by omega) (by omega) (by omega) (c_X9_ask (v1 := (h 148 s0)) (v2 := (h 149 s0)) (v3 := (h 150 s0)) (by omega)  rfl rfl rfl  (fun t1_1_5 t10_2_5 c25_4_5 c39_6_5 => ?_) (fun t1_1_5 t10_2_5 c25_4_5 c39_6_5 t49_8_5 => ?_) (fun t1_1_5 t10_2_5 c25_4_5 c39_6_5 t49_8_5 => ?_) (fun t1_1_5 t10_2_5 c25_4_5 => ?_) (fun t1_1_5 t10_2_5 => ?_) (fun t1_1_5 => ?_))
      · exfalso
        omega
      · have t1_1_5 : 0 ≤ ((s0 : Nat) : Int) ∧ ((s0 : Nat) : Int) ≤ 4 := t1_1_5
        have t10_2_5 : 0 ≤ a2 ∧ a2 ≤ 5 := t10_2_5
        have c25_4_5 : ¬ (h 148 s0) = 0 := c25_4_5
        have c39_6_5 : (h 148 s0) = 1 := c39_6_5
        have t49_8_5 : (a2 = 0 ∨ (h 149 s0) = a2 ∨ (a2 = 1 ∧ (h 149 s0) = 3) ∨ (a2 = 2 ∧ (h 149 s0) = 4)) := t49_8_5
        show Aj γ mL_law d mc ms Post 1502 [(0, vK 0), (1, vA 0), (2, vA 123), (3, vI ((i : Nat) : Int))] [vI (h 150 s0), vI (farF (h 149 s0) (h ((98 + 5 * s0) + 1) 5))] (mk h τ)
        refine a_icmp_eq (tgt := 1668) dL_law_1502 (by decide) (fun c1502_7 => ?_) (fun c1502_7 => ?_)
        · exact kE h N J (IV_up (by omega) hI)
        · refine a_iconst dL_law_1505 ⟨by decide, by decide⟩ ?_
          exact a_zret dL_law_1506 rfl (by first | exact Or.inl rfl | exact Or.inr rfl | omega) (by exfalso; omega)
      · exfalso
        omega
      · exfalso
        omega
      · exfalso
        omega
      · exfalso
        omega
    · have t1_1_1 : 0 ≤ ((s0 : Nat) : Int) ∧ ((s0 : Nat) : Int) ≤ 4 := t1_1_1
      have t8_2_1 : 0 ≤ a2 ∧ a2 ≤ 5 := t8_2_1
      have c28_3_1 : ¬ (h 148 s0) = 0 := c28_3_1
      have c40_4_1 : (h 148 s0) = 1 := c40_4_1
      have t51_5_1 : ¬ ((a2 = 0 ∨ (h 149 s0) = a2 ∨ (a2 = 1 ∧ (h 149 s0) = 3) ∨ (a2 = 2 ∧ (h 149 s0) = 4))) := t51_5_1
      show Aj γ mL_law d mc ms Post 1488 [(0, vK 0), (1, vA 0), (2, vA 123), (3, vI ((i : Nat) : Int))] [vI (-1000000012)] (mk h τ)
      refine a_aload_n (j := 2) dL_law_1488 rfl rfl (Nat.le_of_ble_eq_true rfl) ?_
      refine a_aload_n (j := 0) dL_law_1489 rfl rfl (Nat.le_of_ble_eq_true rfl) ?_
      refine a_iload_n (j := 3) dL_law_1490 rfl rfl ?_
      refine a_iconst dL_law_1491 ⟨by decide, by decide⟩ ?_
      refine a_iadd (z := (((i : Nat) : Int) + 1)) dL_law_1492 (w_ok (by omega) (by omega)) ?_
      refine a_sld (i + 1) dL_law_1493 (by omega) (by omega) ?_
      rw [ha1]
      refine a_aload_n (j := 0) dL_law_1494 rfl rfl (Nat.le_of_ble_eq_true rfl) ?_
      refine a_iload_n (j := 3) dL_law_1495 rfl rfl ?_
      refine a_iconst dL_law_1496 ⟨by decide, by decide⟩ ?_
      refine a_iadd (z := (((i : Nat) : Int) + 2)) dL_law_1497 (w_ok (by omega) (by omega)) ?_
      refine a_sld (i + 2) dL_law_1498 (by omega) (by omega) ?_
      rw [ha2]
      refine b_callV (d' := d - 1) (mc' := 0) (ms' := 0) (mc1 := mc) (ms1 := ms) (st := [vI (-1000000012)]) (b := 123) [vI ((s0 : Nat) : Int), vI a2] dL_law_1499 mwX9_ask lkL_179 (by decide) rfl rc_X9 rfl (Nat.le_of_ble_eq_true rfl) (by omega) (by omega) (by omega) (c_X9_ask (v1 := (h 148 s0)) (v2 := (h 149 s0)) (v3 := (h 150 s0)) (by omega)  rfl rfl rfl  (fun t1_1_8 t10_2_8 c25_4_8 c39_6_8 => ?_) (fun t1_1_8 t10_2_8 c25_4_8 c39_6_8 t49_8_8 => ?_) (fun t1_1_8 t10_2_8 c25_4_8 c39_6_8 t49_8_8 => ?_) (fun t1_1_8 t10_2_8 c25_4_8 => ?_) (fun t1_1_8 t10_2_8 => ?_) (fun t1_1_8 => ?_))
      · exfalso
        omega
      · exfalso
        omega
      · have t1_1_8 : 0 ≤ ((s0 : Nat) : Int) ∧ ((s0 : Nat) : Int) ≤ 4 := t1_1_8
        have t10_2_8 : 0 ≤ a2 ∧ a2 ≤ 5 := t10_2_8
        have c25_4_8 : ¬ (h 148 s0) = 0 := c25_4_8
        have c39_6_8 : (h 148 s0) = 1 := c39_6_8
        have t49_8_8 : ¬ ((a2 = 0 ∨ (h 149 s0) = a2 ∨ (a2 = 1 ∧ (h 149 s0) = 3) ∨ (a2 = 2 ∧ (h 149 s0) = 4))) := t49_8_8
        show Aj γ mL_law d mc ms Post 1502 [(0, vK 0), (1, vA 0), (2, vA 123), (3, vI ((i : Nat) : Int))] [vI (-1000000012), vI (-1000000012)] (mk h τ)
        refine a_icmp_eq (tgt := 1668) dL_law_1502 (by decide) (fun _ => ?_) (fun c => absurd c (by decide))
        exact kE h N J (IV_up (by omega) hI)
      · exfalso
        omega
      · exfalso
        omega
      · exfalso
        omega
    · have t1_1_1 : 0 ≤ ((s0 : Nat) : Int) ∧ ((s0 : Nat) : Int) ≤ 4 := t1_1_1
      have t8_2_1 : 0 ≤ a2 ∧ a2 ≤ 5 := t8_2_1
      have c28_3_1 : (h 148 s0) = 0 := c28_3_1
      show Aj γ mL_law d mc ms Post 1488 [(0, vK 0), (1, vA 0), (2, vA 123), (3, vI ((i : Nat) : Int))] [vI (-1000000011)] (mk h τ)
      refine a_aload_n (j := 2) dL_law_1488 rfl rfl (Nat.le_of_ble_eq_true rfl) ?_
      refine a_aload_n (j := 0) dL_law_1489 rfl rfl (Nat.le_of_ble_eq_true rfl) ?_
      refine a_iload_n (j := 3) dL_law_1490 rfl rfl ?_
      refine a_iconst dL_law_1491 ⟨by decide, by decide⟩ ?_
      refine a_iadd (z := (((i : Nat) : Int) + 1)) dL_law_1492 (w_ok (by omega) (by omega)) ?_
      refine a_sld (i + 1) dL_law_1493 (by omega) (by omega) ?_
      rw [ha1]
      refine a_aload_n (j := 0) dL_law_1494 rfl rfl (Nat.le_of_ble_eq_true rfl) ?_
      refine a_iload_n (j := 3) dL_law_1495 rfl rfl ?_
      refine a_iconst dL_law_1496 ⟨by decide, by decide⟩ ?_
      refine a_iadd (z := (((i : Nat) : Int) + 2)) dL_law_1497 (w_ok (by omega) (by omega)) ?_
      refine a_sld (i + 2) dL_law_1498 (by omega) (by omega) ?_
      rw [ha2]
      refine b_callV (d' := d - 1) (mc' := 0) (ms' := 0) (mc1 := mc) (ms1 := ms) (st := [vI (-1000000011)]) (b := 123) [vI ((s0 : Nat) : Int), vI a2] dL_law_1499 mwX9_ask lkL_179 (by decide) rfl rc_X9 rfl (Nat.le_of_ble_eq_true rfl) (by omega) (by omega) (by omega) (c_X9_ask (v1 := (h 148 s0)) (v2 := (h 149 s0)) (v3 := (h 150 s0)) (by omega)  rfl rfl rfl  (fun t1_1_10 t10_2_10 c25_4_10 c39_6_10 => ?_) (fun t1_1_10 t10_2_10 c25_4_10 c39_6_10 t49_8_10 => ?_) (fun t1_1_10 t10_2_10 c25_4_10 c39_6_10 t49_8_10 => ?_) (fun t1_1_10 t10_2_10 c25_4_10 => ?_) (fun t1_1_10 t10_2_10 => ?_) (fun t1_1_10 => ?_))
      · exfalso
        omega
      · exfalso
        omega
      · exfalso
        omega
      · have t1_1_10 : 0 ≤ ((s0 : Nat) : Int) ∧ ((s0 : Nat) : Int) ≤ 4 := t1_1_10
        have t10_2_10 : 0 ≤ a2 ∧ a2 ≤ 5 := t10_2_10
        have c25_4_10 : (h 148 s0) = 0 := c25_4_10
        show Aj γ mL_law d mc ms Post 1502 [(0, vK 0), (1, vA 0), (2, vA 123), (3, vI ((i : Nat) : Int))] [vI (-1000000011), vI (-1000000011)] (mk h τ)
        refine a_icmp_eq (tgt := 1668) dL_law_1502 (by decide) (fun _ => ?_) (fun c => absurd c (by decide))
        exact kE h N J (IV_up (by omega) hI)
      · exfalso
        omega
      · exfalso
        omega
    · have t1_1_1 : 0 ≤ ((s0 : Nat) : Int) ∧ ((s0 : Nat) : Int) ≤ 4 := t1_1_1
      have t8_2_1 : ¬ (0 ≤ a2 ∧ a2 ≤ 5) := t8_2_1
      show Aj γ mL_law d mc ms Post 1488 [(0, vK 0), (1, vA 0), (2, vA 123), (3, vI ((i : Nat) : Int))] [vI (-1000000001)] (mk h τ)
      refine a_aload_n (j := 2) dL_law_1488 rfl rfl (Nat.le_of_ble_eq_true rfl) ?_
      refine a_aload_n (j := 0) dL_law_1489 rfl rfl (Nat.le_of_ble_eq_true rfl) ?_
      refine a_iload_n (j := 3) dL_law_1490 rfl rfl ?_
      refine a_iconst dL_law_1491 ⟨by decide, by decide⟩ ?_
      refine a_iadd (z := (((i : Nat) : Int) + 1)) dL_law_1492 (w_ok (by omega) (by omega)) ?_
      refine a_sld (i + 1) dL_law_1493 (by omega) (by omega) ?_
      rw [ha1]
      refine a_aload_n (j := 0) dL_law_1494 rfl rfl (Nat.le_of_ble_eq_true rfl) ?_
      refine a_iload_n (j := 3) dL_law_1495 rfl rfl ?_
      refine a_iconst dL_law_1496 ⟨by decide, by decide⟩ ?_
      refine a_iadd (z := (((i : Nat) : Int) + 2)) dL_law_1497 (w_ok (by omega) (by omega)) ?_
      refine a_sld (i + 2) dL_law_1498 (by omega) (by omega) ?_
      rw [ha2]
      refine b_callV (d' := d - 1) (mc' := 0) (ms' := 0) (mc1 := mc) (ms1 := ms) (st := [vI (-1000000001)]) (b := 123) [vI ((s0 : Nat) : Int), vI a2] dL_law_1499 mwX9_ask lkL_179 (by decide) rfl rc_X9 rfl (Nat.le_of_ble_eq_true rfl) (by omega) (by omega) (by omega) (c_X9_ask (v1 := (h 148 s0)) (v2 := (h 149 s0)) (v3 := (h 150 s0)) (by omega)  rfl rfl rfl  (fun t1_1_12 t10_2_12 c25_4_12 c39_6_12 => ?_) (fun t1_1_12 t10_2_12 c25_4_12 c39_6_12 t49_8_12 => ?_) (fun t1_1_12 t10_2_12 c25_4_12 c39_6_12 t49_8_12 => ?_) (fun t1_1_12 t10_2_12 c25_4_12 => ?_) (fun t1_1_12 t10_2_12 => ?_) (fun t1_1_12 => ?_))
      · exfalso
        omega
      · exfalso
        omega
      · exfalso
        omega
      · exfalso
        omega
      · have t1_1_12 : 0 ≤ ((s0 : Nat) : Int) ∧ ((s0 : Nat) : Int) ≤ 4 := t1_1_12
        have t10_2_12 : ¬ (0 ≤ a2 ∧ a2 ≤ 5) := t10_2_12
        show Aj γ mL_law d mc ms Post 1502 [(0, vK 0), (1, vA 0), (2, vA 123), (3, vI ((i : Nat) : Int))] [vI (-1000000001), vI (-1000000001)] (mk h τ)
        refine a_icmp_eq (tgt := 1668) dL_law_1502 (by decide) (fun _ => ?_) (fun c => absurd c (by decide))
        exact kE h N J (IV_up (by omega) hI)
      · exfalso
        omega
    · exfalso
      omega
  · obtain rfl : a1 = ((s0 : Nat) : Int) := by omega
    obtain ⟨l0, l1, l2, l3, l4, l5⟩ := hO.2.2.1 s0 (by omega)
    refine a_aload_n (j := 1) dL_law_1474 rfl rfl (Nat.le_of_ble_eq_true rfl) ?_
    refine a_aload_n (j := 0) dL_law_1475 rfl rfl (Nat.le_of_ble_eq_true rfl) ?_
    refine a_iload_n (j := 3) dL_law_1476 rfl rfl ?_
    refine a_iconst dL_law_1477 ⟨by decide, by decide⟩ ?_
    refine a_iadd (z := (((i : Nat) : Int) + 1)) dL_law_1478 (w_ok (by omega) (by omega)) ?_
    refine a_sld (i + 1) dL_law_1479 (by omega) (by omega) ?_
    rw [ha1]
    refine a_aload_n (j := 0) dL_law_1480 rfl rfl (Nat.le_of_ble_eq_true rfl) ?_
    refine a_iload_n (j := 3) dL_law_1481 rfl rfl ?_
    refine a_iconst dL_law_1482 ⟨by decide, by decide⟩ ?_
    refine a_iadd (z := (((i : Nat) : Int) + 2)) dL_law_1483 (w_ok (by omega) (by omega)) ?_
    refine a_sld (i + 2) dL_law_1484 (by omega) (by omega) ?_
    rw [ha2]
    refine b_callV (d' := d - 1) (mc' := 0) (ms' := 0) (mc1 := mc) (ms1 := ms) (st := []) (b := 0) [vI ((s0 : Nat) : Int), vI a2] dL_law_1485 mwX8_ask lkL_176 (by decide) rfl rc_X8 rfl (Nat.le_of_ble_eq_true rfl) (by omega) (by omega) (by omega) (c_X8_ask (v1 := (h 148 s0)) (v2 := (h ((98 + 5 * s0) + 1) 0)) (v3 := (h ((98 + 5 * s0) + 1) 5)) (by omega)  l0 rfl rfl (show Ip (0 ≤ ((s0 : Nat) : Int) ∧ ((s0 : Nat) : Int) ≤ 4 ∧ (h 148 s0) = 1) (0 ≤ (h ((98 + 5 * s0) + 1) 0) ∧ (h ((98 + 5 * s0) + 1) 0) ≤ 5 ∧ 0 ≤ (h ((98 + 5 * s0) + 1) 5) ∧ (h ((98 + 5 * s0) + 1) 5) ≤ 999) from fun _ => (by omega)) (fun t1_1_1 t8_2_1 c28_3_1 c40_4_1 => ?_) (fun t1_1_1 t8_2_1 c28_3_1 c40_4_1 t51_5_1 => ?_) (fun t1_1_1 t8_2_1 c28_3_1 c40_4_1 t51_5_1 => ?_) (fun t1_1_1 t8_2_1 c28_3_1 => ?_) (fun t1_1_1 t8_2_1 => ?_) (fun t1_1_1 => ?_))
    · have t1_1_1 : 0 ≤ ((s0 : Nat) : Int) ∧ ((s0 : Nat) : Int) ≤ 4 := t1_1_1
      have t8_2_1 : 0 ≤ a2 ∧ a2 ≤ 5 := t8_2_1
      have c28_3_1 : ¬ (h 148 s0) = 0 := c28_3_1
      have c40_4_1 : ¬ (h 148 s0) = 1 := c40_4_1
      show Aj γ mL_law d mc ms Post 1488 [(0, vK 0), (1, vA 0), (2, vA 123), (3, vI ((i : Nat) : Int))] [vI (-1000000012)] (mk h τ)
      refine a_aload_n (j := 2) dL_law_1488 rfl rfl (Nat.le_of_ble_eq_true rfl) ?_
      refine a_aload_n (j := 0) dL_law_1489 rfl rfl (Nat.le_of_ble_eq_true rfl) ?_
      refine a_iload_n (j := 3) dL_law_1490 rfl rfl ?_
      refine a_iconst dL_law_1491 ⟨by decide, by decide⟩ ?_
      refine a_iadd (z := (((i : Nat) : Int) + 1)) dL_law_1492 (w_ok (by omega) (by omega)) ?_
      refine a_sld (i + 1) dL_law_1493 (by omega) (by omega) ?_
      rw [ha1]
      refine a_aload_n (j := 0) dL_law_1494 rfl rfl (Nat.le_of_ble_eq_true rfl) ?_
      refine a_iload_n (j := 3) dL_law_1495 rfl rfl ?_
      refine a_iconst dL_law_1496 ⟨by decide, by decide⟩ ?_
      refine a_iadd (z := (((i : Nat) : Int) + 2)) dL_law_1497 (w_ok (by omega) (by omega)) ?_
      refine a_sld (i + 2) dL_law_1498 (by omega) (by omega) ?_
      rw [ha2]
      refine b_callV (d' := d - 1) (mc' := 0) (ms' := 0) (mc1 := mc) (ms1 := ms) (st := [vI (-1000000012)]) (b := 123) [vI ((s0 : Nat) : Int), vI a2] dL_law_1499 mwX9_ask lkL_179 (by decide) rfl rc_X9 rfl (Nat.le_of_ble_eq_true rfl) (by omega) (by omega) (by omega) (c_X9_ask (v1 := (h 148 s0)) (v2 := (h 149 s0)) (v3 := (h 150 s0)) (by omega)  rfl rfl rfl  (fun t1_1_3 t10_2_3 c25_4_3 c39_6_3 => ?_) (fun t1_1_3 t10_2_3 c25_4_3 c39_6_3 t49_8_3 => ?_) (fun t1_1_3 t10_2_3 c25_4_3 c39_6_3 t49_8_3 => ?_) (fun t1_1_3 t10_2_3 c25_4_3 => ?_) (fun t1_1_3 t10_2_3 => ?_) (fun t1_1_3 => ?_))
      · have t1_1_3 : 0 ≤ ((s0 : Nat) : Int) ∧ ((s0 : Nat) : Int) ≤ 4 := t1_1_3
        have t10_2_3 : 0 ≤ a2 ∧ a2 ≤ 5 := t10_2_3
        have c25_4_3 : ¬ (h 148 s0) = 0 := c25_4_3
        have c39_6_3 : ¬ (h 148 s0) = 1 := c39_6_3
        show Aj γ mL_law d mc ms Post 1502 [(0, vK 0), (1, vA 0), (2, vA 123), (3, vI ((i : Nat) : Int))] [vI (-1000000012), vI (-1000000012)] (mk h τ)
        refine a_icmp_eq (tgt := 1668) dL_law_1502 (by decide) (fun _ => ?_) (fun c => absurd c (by decide))
        exact kE h N J (IV_up (by omega) hI)
      · exfalso
        omega
      · exfalso
        omega
      · exfalso
        omega
      · exfalso
        omega
      · exfalso
        omega
    · have t1_1_1 : 0 ≤ ((s0 : Nat) : Int) ∧ ((s0 : Nat) : Int) ≤ 4 := t1_1_1
      have t8_2_1 : 0 ≤ a2 ∧ a2 ≤ 5 := t8_2_1
      have c28_3_1 : ¬ (h 148 s0) = 0 := c28_3_1
      have c40_4_1 : (h 148 s0) = 1 := c40_4_1
      have t51_5_1 : (a2 = 0 ∨ (h ((98 + 5 * s0) + 1) 0) = a2 ∨ (a2 = 1 ∧ (h ((98 + 5 * s0) + 1) 0) = 3) ∨ (a2 = 2 ∧ (h ((98 + 5 * s0) + 1) 0) = 4)) := t51_5_1
      show Aj γ mL_law d mc ms Post 1488 [(0, vK 0), (1, vA 0), (2, vA 123), (3, vI ((i : Nat) : Int))] [vI (farF (h ((98 + 5 * s0) + 1) 0) (h ((98 + 5 * s0) + 1) 5))] (mk h τ)
      refine a_aload_n (j := 2) dL_law_1488 rfl rfl (Nat.le_of_ble_eq_true rfl) ?_
      refine a_aload_n (j := 0) dL_law_1489 rfl rfl (Nat.le_of_ble_eq_true rfl) ?_
      refine a_iload_n (j := 3) dL_law_1490 rfl rfl ?_
      refine a_iconst dL_law_1491 ⟨by decide, by decide⟩ ?_
      refine a_iadd (z := (((i : Nat) : Int) + 1)) dL_law_1492 (w_ok (by omega) (by omega)) ?_
      refine a_sld (i + 1) dL_law_1493 (by omega) (by omega) ?_
      rw [ha1]
      refine a_aload_n (j := 0) dL_law_1494 rfl rfl (Nat.le_of_ble_eq_true rfl) ?_
      refine a_iload_n (j := 3) dL_law_1495 rfl rfl ?_
      refine a_iconst dL_law_1496 ⟨by decide, by decide⟩ ?_
      refine a_iadd (z := (((i : Nat) : Int) + 2)) dL_law_1497 (w_ok (by omega) (by omega)) ?_
      refine a_sld (i + 2) dL_law_1498 (by omega) (by omega) ?_
      rw [ha2]
      refine b_callV (d' := d - 1) (mc' := 0) (ms' := 0) (mc1 := mc) (ms1 := ms) (st := [vI (farF (h ((98 + 5 * s0) + 1) 0) (h ((98 + 5 * s0) + 1) 5))]) (b := 123) [vI ((s0 : Nat) : Int), vI a2] dL_law_1499 mwX9_ask lkL_179 (by decide) rfl rc_X9 rfl (Nat.le_of_ble_eq_true rfl) (by omega) (by omega) (by omega) (c_X9_ask (v1 := (h 148 s0)) (v2 := (h 149 s0)) (v3 := (h 150 s0)) (by omega)  rfl rfl rfl  (fun t1_1_5 t10_2_5 c25_4_5 c39_6_5 => ?_) (fun t1_1_5 t10_2_5 c25_4_5 c39_6_5 t49_8_5 => ?_) (fun t1_1_5 t10_2_5 c25_4_5 c39_6_5 t49_8_5 => ?_) (fun t1_1_5 t10_2_5 c25_4_5 => ?_) (fun t1_1_5 t10_2_5 => ?_) (fun t1_1_5 => ?_))
      · exfalso
        omega
      · have t1_1_5 : 0 ≤ ((s0 : Nat) : Int) ∧ ((s0 : Nat) : Int) ≤ 4 := t1_1_5
        have t10_2_5 : 0 ≤ a2 ∧ a2 ≤ 5 := t10_2_5
        have c25_4_5 : ¬ (h 148 s0) = 0 := c25_4_5
        have c39_6_5 : (h 148 s0) = 1 := c39_6_5
        have t49_8_5 : (a2 = 0 ∨ (h 149 s0) = a2 ∨ (a2 = 1 ∧ (h 149 s0) = 3) ∨ (a2 = 2 ∧ (h 149 s0) = 4)) := t49_8_5
        show Aj γ mL_law d mc ms Post 1502 [(0, vK 0), (1, vA 0), (2, vA 123), (3, vI ((i : Nat) : Int))] [vI (h 150 s0), vI (farF (h ((98 + 5 * s0) + 1) 0) (h ((98 + 5 * s0) + 1) 5))] (mk h τ)
        refine a_icmp_eq (tgt := 1668) dL_law_1502 (by decide) (fun c1502_7 => ?_) (fun c1502_7 => ?_)
        · exact kE h N J (IV_up (by omega) hI)
        · refine a_iconst dL_law_1505 ⟨by decide, by decide⟩ ?_
          exact a_zret dL_law_1506 rfl (by first | exact Or.inl rfl | exact Or.inr rfl | omega) (by exfalso; omega)
      · have t1_1_5 : 0 ≤ ((s0 : Nat) : Int) ∧ ((s0 : Nat) : Int) ≤ 4 := t1_1_5
        have t10_2_5 : 0 ≤ a2 ∧ a2 ≤ 5 := t10_2_5
        have c25_4_5 : ¬ (h 148 s0) = 0 := c25_4_5
        have c39_6_5 : (h 148 s0) = 1 := c39_6_5
        have t49_8_5 : ¬ ((a2 = 0 ∨ (h 149 s0) = a2 ∨ (a2 = 1 ∧ (h 149 s0) = 3) ∨ (a2 = 2 ∧ (h 149 s0) = 4))) := t49_8_5
        show Aj γ mL_law d mc ms Post 1502 [(0, vK 0), (1, vA 0), (2, vA 123), (3, vI ((i : Nat) : Int))] [vI (-1000000012), vI (farF (h ((98 + 5 * s0) + 1) 0) (h ((98 + 5 * s0) + 1) 5))] (mk h τ)
        refine a_icmp_eq (tgt := 1668) dL_law_1502 (by decide) (fun c1502_8 => ?_) (fun c1502_8 => ?_)
        · exact kE h N J (IV_up (by omega) hI)
        · refine a_iconst dL_law_1505 ⟨by decide, by decide⟩ ?_
          exact a_zret dL_law_1506 rfl (by first | exact Or.inl rfl | exact Or.inr rfl | omega) (by exfalso; omega)
      · exfalso
        omega
      · exfalso
        omega
      · exfalso
        omega
    · have t1_1_1 : 0 ≤ ((s0 : Nat) : Int) ∧ ((s0 : Nat) : Int) ≤ 4 := t1_1_1
      have t8_2_1 : 0 ≤ a2 ∧ a2 ≤ 5 := t8_2_1
      have c28_3_1 : ¬ (h 148 s0) = 0 := c28_3_1
      have c40_4_1 : (h 148 s0) = 1 := c40_4_1
      have t51_5_1 : ¬ ((a2 = 0 ∨ (h ((98 + 5 * s0) + 1) 0) = a2 ∨ (a2 = 1 ∧ (h ((98 + 5 * s0) + 1) 0) = 3) ∨ (a2 = 2 ∧ (h ((98 + 5 * s0) + 1) 0) = 4))) := t51_5_1
      show Aj γ mL_law d mc ms Post 1488 [(0, vK 0), (1, vA 0), (2, vA 123), (3, vI ((i : Nat) : Int))] [vI (-1000000012)] (mk h τ)
      refine a_aload_n (j := 2) dL_law_1488 rfl rfl (Nat.le_of_ble_eq_true rfl) ?_
      refine a_aload_n (j := 0) dL_law_1489 rfl rfl (Nat.le_of_ble_eq_true rfl) ?_
      refine a_iload_n (j := 3) dL_law_1490 rfl rfl ?_
      refine a_iconst dL_law_1491 ⟨by decide, by decide⟩ ?_
      refine a_iadd (z := (((i : Nat) : Int) + 1)) dL_law_1492 (w_ok (by omega) (by omega)) ?_
      refine a_sld (i + 1) dL_law_1493 (by omega) (by omega) ?_
      rw [ha1]
      refine a_aload_n (j := 0) dL_law_1494 rfl rfl (Nat.le_of_ble_eq_true rfl) ?_
      refine a_iload_n (j := 3) dL_law_1495 rfl rfl ?_
      refine a_iconst dL_law_1496 ⟨by decide, by decide⟩ ?_
      refine a_iadd (z := (((i : Nat) : Int) + 2)) dL_law_1497 (w_ok (by omega) (by omega)) ?_
      refine a_sld (i + 2) dL_law_1498 (by omega) (by omega) ?_
      rw [ha2]
      refine b_callV (d' := d - 1) (mc' := 0) (ms' := 0) (mc1 := mc) (ms1 := ms) (st := [vI (-1000000012)]) (b := 123) [vI ((s0 : Nat) : Int), vI a2] dL_law_1499 mwX9_ask lkL_179 (by decide) rfl rc_X9 rfl (Nat.le_of_ble_eq_true rfl) (by omega) (by omega) (by omega) (c_X9_ask (v1 := (h 148 s0)) (v2 := (h 149 s0)) (v3 := (h 150 s0)) (by omega)  rfl rfl rfl  (fun t1_1_9 t10_2_9 c25_4_9 c39_6_9 => ?_) (fun t1_1_9 t10_2_9 c25_4_9 c39_6_9 t49_8_9 => ?_) (fun t1_1_9 t10_2_9 c25_4_9 c39_6_9 t49_8_9 => ?_) (fun t1_1_9 t10_2_9 c25_4_9 => ?_) (fun t1_1_9 t10_2_9 => ?_) (fun t1_1_9 => ?_))
      · exfalso
        omega
      · have t1_1_9 : 0 ≤ ((s0 : Nat) : Int) ∧ ((s0 : Nat) : Int) ≤ 4 := t1_1_9
        have t10_2_9 : 0 ≤ a2 ∧ a2 ≤ 5 := t10_2_9
        have c25_4_9 : ¬ (h 148 s0) = 0 := c25_4_9
        have c39_6_9 : (h 148 s0) = 1 := c39_6_9
        have t49_8_9 : (a2 = 0 ∨ (h 149 s0) = a2 ∨ (a2 = 1 ∧ (h 149 s0) = 3) ∨ (a2 = 2 ∧ (h 149 s0) = 4)) := t49_8_9
        show Aj γ mL_law d mc ms Post 1502 [(0, vK 0), (1, vA 0), (2, vA 123), (3, vI ((i : Nat) : Int))] [vI (h 150 s0), vI (-1000000012)] (mk h τ)
        refine a_icmp_eq (tgt := 1668) dL_law_1502 (by decide) (fun c1502_11 => ?_) (fun c1502_11 => ?_)
        · exact kE h N J (IV_up (by omega) hI)
        · refine a_iconst dL_law_1505 ⟨by decide, by decide⟩ ?_
          exact a_zret dL_law_1506 rfl (by first | exact Or.inl rfl | exact Or.inr rfl | omega) (by exfalso; omega)
      · have t1_1_9 : 0 ≤ ((s0 : Nat) : Int) ∧ ((s0 : Nat) : Int) ≤ 4 := t1_1_9
        have t10_2_9 : 0 ≤ a2 ∧ a2 ≤ 5 := t10_2_9
        have c25_4_9 : ¬ (h 148 s0) = 0 := c25_4_9
        have c39_6_9 : (h 148 s0) = 1 := c39_6_9
        have t49_8_9 : ¬ ((a2 = 0 ∨ (h 149 s0) = a2 ∨ (a2 = 1 ∧ (h 149 s0) = 3) ∨ (a2 = 2 ∧ (h 149 s0) = 4))) := t49_8_9
        show Aj γ mL_law d mc ms Post 1502 [(0, vK 0), (1, vA 0), (2, vA 123), (3, vI ((i : Nat) : Int))] [vI (-1000000012), vI (-1000000012)] (mk h τ)
        refine a_icmp_eq (tgt := 1668) dL_law_1502 (by decide) (fun _ => ?_) (fun c => absurd c (by decide))
        exact kE h N J (IV_up (by omega) hI)
      · exfalso
        omega
      · exfalso
        omega
      · exfalso
        omega
    · have t1_1_1 : 0 ≤ ((s0 : Nat) : Int) ∧ ((s0 : Nat) : Int) ≤ 4 := t1_1_1
      have t8_2_1 : 0 ≤ a2 ∧ a2 ≤ 5 := t8_2_1
      have c28_3_1 : (h 148 s0) = 0 := c28_3_1
      show Aj γ mL_law d mc ms Post 1488 [(0, vK 0), (1, vA 0), (2, vA 123), (3, vI ((i : Nat) : Int))] [vI (-1000000011)] (mk h τ)
      refine a_aload_n (j := 2) dL_law_1488 rfl rfl (Nat.le_of_ble_eq_true rfl) ?_
      refine a_aload_n (j := 0) dL_law_1489 rfl rfl (Nat.le_of_ble_eq_true rfl) ?_
      refine a_iload_n (j := 3) dL_law_1490 rfl rfl ?_
      refine a_iconst dL_law_1491 ⟨by decide, by decide⟩ ?_
      refine a_iadd (z := (((i : Nat) : Int) + 1)) dL_law_1492 (w_ok (by omega) (by omega)) ?_
      refine a_sld (i + 1) dL_law_1493 (by omega) (by omega) ?_
      rw [ha1]
      refine a_aload_n (j := 0) dL_law_1494 rfl rfl (Nat.le_of_ble_eq_true rfl) ?_
      refine a_iload_n (j := 3) dL_law_1495 rfl rfl ?_
      refine a_iconst dL_law_1496 ⟨by decide, by decide⟩ ?_
      refine a_iadd (z := (((i : Nat) : Int) + 2)) dL_law_1497 (w_ok (by omega) (by omega)) ?_
      refine a_sld (i + 2) dL_law_1498 (by omega) (by omega) ?_
      rw [ha2]
      refine b_callV (d' := d - 1) (mc' := 0) (ms' := 0) (mc1 := mc) (ms1 := ms) (st := [vI (-1000000011)]) (b := 123) [vI ((s0 : Nat) : Int), vI a2] dL_law_1499 mwX9_ask lkL_179 (by decide) rfl rc_X9 rfl (Nat.le_of_ble_eq_true rfl) (by omega) (by omega) (by omega) (c_X9_ask (v1 := (h 148 s0)) (v2 := (h 149 s0)) (v3 := (h 150 s0)) (by omega)  rfl rfl rfl  (fun t1_1_12 t10_2_12 c25_4_12 c39_6_12 => ?_) (fun t1_1_12 t10_2_12 c25_4_12 c39_6_12 t49_8_12 => ?_) (fun t1_1_12 t10_2_12 c25_4_12 c39_6_12 t49_8_12 => ?_) (fun t1_1_12 t10_2_12 c25_4_12 => ?_) (fun t1_1_12 t10_2_12 => ?_) (fun t1_1_12 => ?_))
      · exfalso
        omega
      · exfalso
        omega
      · exfalso
        omega
      · have t1_1_12 : 0 ≤ ((s0 : Nat) : Int) ∧ ((s0 : Nat) : Int) ≤ 4 := t1_1_12
        have t10_2_12 : 0 ≤ a2 ∧ a2 ≤ 5 := t10_2_12
        have c25_4_12 : (h 148 s0) = 0 := c25_4_12
        show Aj γ mL_law d mc ms Post 1502 [(0, vK 0), (1, vA 0), (2, vA 123), (3, vI ((i : Nat) : Int))] [vI (-1000000011), vI (-1000000011)] (mk h τ)
        refine a_icmp_eq (tgt := 1668) dL_law_1502 (by decide) (fun _ => ?_) (fun c => absurd c (by decide))
        exact kE h N J (IV_up (by omega) hI)
      · exfalso
        omega
      · exfalso
        omega
    · have t1_1_1 : 0 ≤ ((s0 : Nat) : Int) ∧ ((s0 : Nat) : Int) ≤ 4 := t1_1_1
      have t8_2_1 : ¬ (0 ≤ a2 ∧ a2 ≤ 5) := t8_2_1
      show Aj γ mL_law d mc ms Post 1488 [(0, vK 0), (1, vA 0), (2, vA 123), (3, vI ((i : Nat) : Int))] [vI (-1000000001)] (mk h τ)
      refine a_aload_n (j := 2) dL_law_1488 rfl rfl (Nat.le_of_ble_eq_true rfl) ?_
      refine a_aload_n (j := 0) dL_law_1489 rfl rfl (Nat.le_of_ble_eq_true rfl) ?_
      refine a_iload_n (j := 3) dL_law_1490 rfl rfl ?_
      refine a_iconst dL_law_1491 ⟨by decide, by decide⟩ ?_
      refine a_iadd (z := (((i : Nat) : Int) + 1)) dL_law_1492 (w_ok (by omega) (by omega)) ?_
      refine a_sld (i + 1) dL_law_1493 (by omega) (by omega) ?_
      rw [ha1]
      refine a_aload_n (j := 0) dL_law_1494 rfl rfl (Nat.le_of_ble_eq_true rfl) ?_
      refine a_iload_n (j := 3) dL_law_1495 rfl rfl ?_
      refine a_iconst dL_law_1496 ⟨by decide, by decide⟩ ?_
      refine a_iadd (z := (((i : Nat) : Int) + 2)) dL_law_1497 (w_ok (by omega) (by omega)) ?_
      refine a_sld (i + 2) dL_law_1498 (by omega) (by omega) ?_
      rw [ha2]
      refine b_callV (d' := d - 1) (mc' := 0) (ms' := 0) (mc1 := mc) (ms1 := ms) (st := [vI (-1000000001)]) (b := 123) [vI ((s0 : Nat) : Int), vI a2] dL_law_1499 mwX9_ask lkL_179 (by decide) rfl rc_X9 rfl (Nat.le_of_ble_eq_true rfl) (by omega) (by omega) (by omega) (c_X9_ask (v1 := (h 148 s0)) (v2 := (h 149 s0)) (v3 := (h 150 s0)) (by omega)  rfl rfl rfl  (fun t1_1_14 t10_2_14 c25_4_14 c39_6_14 => ?_) (fun t1_1_14 t10_2_14 c25_4_14 c39_6_14 t49_8_14 => ?_) (fun t1_1_14 t10_2_14 c25_4_14 c39_6_14 t49_8_14 => ?_) (fun t1_1_14 t10_2_14 c25_4_14 => ?_) (fun t1_1_14 t10_2_14 => ?_) (fun t1_1_14 => ?_))
      · exfalso
        omega
      · exfalso
        omega
      · exfalso
        omega
      · exfalso
        omega
      · have t1_1_14 : 0 ≤ ((s0 : Nat) : Int) ∧ ((s0 : Nat) : Int) ≤ 4 := t1_1_14
        have t10_2_14 : ¬ (0 ≤ a2 ∧ a2 ≤ 5) := t10_2_14
        show Aj γ mL_law d mc ms Post 1502 [(0, vK 0), (1, vA 0), (2, vA 123), (3, vI ((i : Nat) : Int))] [vI (-1000000001), vI (-1000000001)] (mk h τ)
        refine a_icmp_eq (tgt := 1668) dL_law_1502 (by decide) (fun _ => ?_) (fun c => absurd c (by decide))
        exact kE h N J (IV_up (by omega) hI)
      · exfalso
        omega
    · exfalso
      omega
set_option maxHeartbeats 16000000 in
theorem s_rest {γ : GT} {d mc ms n i : Nat} {N J : Nat → Int} {h : Nat → Nat → Int} {τ : List AC} {Post : Option AV → List AC → Prop} (hd : 30 ≤ d) (hn : n < 64) (hi : i + 5 < g_L γ) (hL : g_L γ ≤ 384) (hI : IVp n h τ N J) (kE : ∀ h' N' J', IVp (n + 1) h' τ N' J' → Aj γ mL_law d mc ms Post 1668 [(0, vK 0), (1, vA 0), (2, vA 123), (3, vI ((i : Nat) : Int))] [] (mk h' τ)) : Aj γ mL_law d mc ms Post 1540 [(0, vK 0), (1, vA 0), (2, vA 123), (3, vI ((i : Nat) : Int))] [] (mk h τ) := by
  obtain ⟨hN, hJ, hX, hR, hk, hkK, hC, hRC, hst, hO⟩ := id hI
  have hsc := hX.1.1
  have hs1 := hsc.1
  have hs2 := hsc.2.1
  have hs3 := hsc.2.2.1
  have hs4 := hsc.2.2.2.1
  have hs5 := hsc.2.2.2.2
  have hs6 := hX.1.2.2.2.1
  have hx7 := hX.2.1
  have hx8 := hX.2.2.2.1
  obtain ⟨a1, ha1⟩ : ∃ z, (g_x γ (i + 1)).toInt = z := ⟨_, rfl⟩
  have ra1 : inI a1 := ha1 ▸ i32_rng _
  unfold inI at ra1
  obtain ⟨a2, ha2⟩ : ∃ z, (g_x γ (i + 2)).toInt = z := ⟨_, rfl⟩
  have ra2 : inI a2 := ha2 ▸ i32_rng _
  unfold inI at ra2
  obtain ⟨s0, hs0⟩ : ∃ z : Nat, z = Int.toNat a1 := ⟨_, rfl⟩
  rcases (show ¬ (0 ≤ a1 ∧ a1 ≤ 4) ∨ ((0 ≤ a1 ∧ a1 ≤ 4) ∧ h 148 s0 = 3) ∨ ((0 ≤ a1 ∧ a1 ≤ 4) ∧ ¬ h 148 s0 = 3) by omega) with hin | hin | hin
  · skip
    refine a_aload_n (j := 1) dL_law_1540 rfl rfl (Nat.le_of_ble_eq_true rfl) ?_
    refine a_aload_n (j := 0) dL_law_1541 rfl rfl (Nat.le_of_ble_eq_true rfl) ?_
    refine a_iload_n (j := 3) dL_law_1542 rfl rfl ?_
    refine a_iconst dL_law_1543 ⟨by decide, by decide⟩ ?_
    refine a_iadd (z := (((i : Nat) : Int) + 1)) dL_law_1544 (w_ok (by omega) (by omega)) ?_
    refine a_sld (i + 1) dL_law_1545 (by omega) (by omega) ?_
    rw [ha1]
    refine a_aload_n (j := 0) dL_law_1546 rfl rfl (Nat.le_of_ble_eq_true rfl) ?_
    refine a_iload_n (j := 3) dL_law_1547 rfl rfl ?_
    refine a_iconst dL_law_1548 ⟨by decide, by decide⟩ ?_
    refine a_iadd (z := (((i : Nat) : Int) + 2)) dL_law_1549 (w_ok (by omega) (by omega)) ?_
    refine a_sld (i + 2) dL_law_1550 (by omega) (by omega) ?_
    rw [ha2]
    refine b_callV (d' := d - 1) (mc' := 0) (ms' := 0) (mc1 := mc) (ms1 := ms) (st := []) (b := 0) [vI a1, vI a2] dL_law_1551 mwX8_rest lkL_184 (by decide) rfl rc_X8 rfl (Nat.le_of_ble_eq_true rfl) (by omega) (by omega) (by omega) (c_X8_rest (v1 := (h (98 + 5 * (Int.toNat a1)) 0)) (v2 := (h (98 + 5 * (Int.toNat a1)) 1)) (by omega)  rfl rfl  (fun t1_1_1 c21_2_1 c33_3_1 c40_4_1 => ?_) (fun t1_1_1 c21_2_1 c33_3_1 c40_4_1 => ?_) (fun t1_1_1 c21_2_1 c33_3_1 => ?_) (fun t1_1_1 c21_2_1 => ?_) (fun t1_1_1 => ?_))
    · exfalso
      omega
    · exfalso
      omega
    · exfalso
      omega
    · exfalso
      omega
    · have t1_1_1 : ¬ (0 ≤ a1 ∧ a1 ≤ 4) := t1_1_1
      show Aj γ mL_law d mc ms Post 1554 [(0, vK 0), (1, vA 0), (2, vA 123), (3, vI ((i : Nat) : Int))] [vI (-1000000001)] (mk h τ)
      refine a_aload_n (j := 2) dL_law_1554 rfl rfl (Nat.le_of_ble_eq_true rfl) ?_
      refine a_aload_n (j := 0) dL_law_1555 rfl rfl (Nat.le_of_ble_eq_true rfl) ?_
      refine a_iload_n (j := 3) dL_law_1556 rfl rfl ?_
      refine a_iconst dL_law_1557 ⟨by decide, by decide⟩ ?_
      refine a_iadd (z := (((i : Nat) : Int) + 1)) dL_law_1558 (w_ok (by omega) (by omega)) ?_
      refine a_sld (i + 1) dL_law_1559 (by omega) (by omega) ?_
      rw [ha1]
      refine a_aload_n (j := 0) dL_law_1560 rfl rfl (Nat.le_of_ble_eq_true rfl) ?_
      refine a_iload_n (j := 3) dL_law_1561 rfl rfl ?_
      refine a_iconst dL_law_1562 ⟨by decide, by decide⟩ ?_
      refine a_iadd (z := (((i : Nat) : Int) + 2)) dL_law_1563 (w_ok (by omega) (by omega)) ?_
      refine a_sld (i + 2) dL_law_1564 (by omega) (by omega) ?_
      rw [ha2]
      refine b_callV (d' := d - 1) (mc' := 0) (ms' := 0) (mc1 := mc) (ms1 := ms) (st := [vI (-1000000001)]) (b := 123) [vI a1, vI a2] dL_law_1565 mwX9_rest lkL_187 (by decide) rfl rc_X9 rfl (Nat.le_of_ble_eq_true rfl) (by omega) (by omega) (by omega) (c_X9_rest (v1 := (h 148 (Int.toNat a1))) (v2 := (h 149 (Int.toNat a1))) (by omega)  rfl rfl  (fun t1_1_3 c16_3_3 c30_5_3 c37_6_3 c47_7_3 => ?_) (fun t1_1_3 c16_3_3 c30_5_3 c37_6_3 c47_7_3 => ?_) (fun t1_1_3 c16_3_3 c30_5_3 c37_6_3 => ?_) (fun t1_1_3 c16_3_3 c30_5_3 => ?_) (fun t1_1_3 c16_3_3 => ?_) (fun t1_1_3 => ?_))
      · exfalso
        omega
      · exfalso
        omega
      · exfalso
        omega
      · exfalso
        omega
      · exfalso
        omega
      · have t1_1_3 : ¬ (0 ≤ a1 ∧ a1 ≤ 4) := t1_1_3
        show Aj γ mL_law d mc ms Post 1568 [(0, vK 0), (1, vA 0), (2, vA 123), (3, vI ((i : Nat) : Int))] [vI (-1000000001), vI (-1000000001)] (mk h τ)
        refine a_icmp_eq (tgt := 1668) dL_law_1568 (by decide) (fun _ => ?_) (fun c => absurd c (by decide))
        exact kE h N J (IV_up (by omega) hI)
  · obtain rfl : a1 = ((s0 : Nat) : Int) := by omega
    obtain ⟨l0, l1, l2, l3, l4, l5⟩ := hO.2.2.1 s0 (by omega)
    have lt1 := l4 hin.2
    have ltm : w32 (Int.tmod (h 149 s0) (-1)) = 0 := by rw [Int.tmod_neg, Int.tmod_one]; rfl
    have ltn : a2 = -1 → w32 (Int.tmod (h 149 s0) a2) = 0 := fun e => by rw [e]; exact ltm
    refine a_aload_n (j := 1) dL_law_1540 rfl rfl (Nat.le_of_ble_eq_true rfl) ?_
    refine a_aload_n (j := 0) dL_law_1541 rfl rfl (Nat.le_of_ble_eq_true rfl) ?_
    refine a_iload_n (j := 3) dL_law_1542 rfl rfl ?_
    refine a_iconst dL_law_1543 ⟨by decide, by decide⟩ ?_
    refine a_iadd (z := (((i : Nat) : Int) + 1)) dL_law_1544 (w_ok (by omega) (by omega)) ?_
    refine a_sld (i + 1) dL_law_1545 (by omega) (by omega) ?_
    rw [ha1]
    refine a_aload_n (j := 0) dL_law_1546 rfl rfl (Nat.le_of_ble_eq_true rfl) ?_
    refine a_iload_n (j := 3) dL_law_1547 rfl rfl ?_
    refine a_iconst dL_law_1548 ⟨by decide, by decide⟩ ?_
    refine a_iadd (z := (((i : Nat) : Int) + 2)) dL_law_1549 (w_ok (by omega) (by omega)) ?_
    refine a_sld (i + 2) dL_law_1550 (by omega) (by omega) ?_
    rw [ha2]
    refine b_callV (d' := d - 1) (mc' := 0) (ms' := 0) (mc1 := mc) (ms1 := ms) (st := []) (b := 0) [vI ((s0 : Nat) : Int), vI a2] dL_law_1551 mwX8_rest lkL_184 (by decide) rfl rc_X8 rfl (Nat.le_of_ble_eq_true rfl) (by omega) (by omega) (by omega) (c_X8_rest (v1 := (h 148 s0)) (v2 := (h 149 s0)) (by omega)  l0 lt1  (fun t1_1_1 c21_2_1 c33_3_1 c40_4_1 => ?_) (fun t1_1_1 c21_2_1 c33_3_1 c40_4_1 => ?_) (fun t1_1_1 c21_2_1 c33_3_1 => ?_) (fun t1_1_1 c21_2_1 => ?_) (fun t1_1_1 => ?_))
    · have t1_1_1 : 0 ≤ ((s0 : Nat) : Int) ∧ ((s0 : Nat) : Int) ≤ 4 := t1_1_1
      have c21_2_1 : ¬ (h 148 s0) = 0 := c21_2_1
      have c33_3_1 : (h 148 s0) = 3 := c33_3_1
      have c40_4_1 : ¬ a2 = 0 := c40_4_1
      show Aj γ mL_law d mc ms Post 1554 [(0, vK 0), (1, vA 0), (2, vA 123), (3, vI ((i : Nat) : Int))] [vI (w32 (Int.tmod (h 149 s0) a2))] (mk h τ)
      refine a_aload_n (j := 2) dL_law_1554 rfl rfl (Nat.le_of_ble_eq_true rfl) ?_
      refine a_aload_n (j := 0) dL_law_1555 rfl rfl (Nat.le_of_ble_eq_true rfl) ?_
      refine a_iload_n (j := 3) dL_law_1556 rfl rfl ?_
      refine a_iconst dL_law_1557 ⟨by decide, by decide⟩ ?_
      refine a_iadd (z := (((i : Nat) : Int) + 1)) dL_law_1558 (w_ok (by omega) (by omega)) ?_
      refine a_sld (i + 1) dL_law_1559 (by omega) (by omega) ?_
      rw [ha1]
      refine a_aload_n (j := 0) dL_law_1560 rfl rfl (Nat.le_of_ble_eq_true rfl) ?_
      refine a_iload_n (j := 3) dL_law_1561 rfl rfl ?_
      refine a_iconst dL_law_1562 ⟨by decide, by decide⟩ ?_
      refine a_iadd (z := (((i : Nat) : Int) + 2)) dL_law_1563 (w_ok (by omega) (by omega)) ?_
      refine a_sld (i + 2) dL_law_1564 (by omega) (by omega) ?_
      rw [ha2]
      refine b_callV (d' := d - 1) (mc' := 0) (ms' := 0) (mc1 := mc) (ms1 := ms) (st := [vI (w32 (Int.tmod (h 149 s0) a2))]) (b := 123) [vI ((s0 : Nat) : Int), vI a2] dL_law_1565 mwX9_rest lkL_187 (by decide) rfl rc_X9 rfl (Nat.le_of_ble_eq_true rfl) (by omega) (by omega) (by omega) (c_X9_rest (v1 := (h 148 s0)) (v2 := (h 149 s0)) (by omega)  rfl rfl  (fun t1_1_3 c16_3_3 c30_5_3 c37_6_3 c47_7_3 => ?_) (fun t1_1_3 c16_3_3 c30_5_3 c37_6_3 c47_7_3 => ?_) (fun t1_1_3 c16_3_3 c30_5_3 c37_6_3 => ?_) (fun t1_1_3 c16_3_3 c30_5_3 => ?_) (fun t1_1_3 c16_3_3 => ?_) (fun t1_1_3 => ?_))
      · have t1_1_3 : 0 ≤ ((s0 : Nat) : Int) ∧ ((s0 : Nat) : Int) ≤ 4 := t1_1_3
        have c16_3_3 : ¬ (h 148 s0) = 0 := c16_3_3
        have c30_5_3 : (h 148 s0) = 3 := c30_5_3
        have c37_6_3 : ¬ a2 = 0 := c37_6_3
        have c47_7_3 : ¬ a2 = (-1) := c47_7_3
        show Aj γ mL_law d mc ms Post 1568 [(0, vK 0), (1, vA 0), (2, vA 123), (3, vI ((i : Nat) : Int))] [vI (w32 (Int.tmod (h 149 s0) a2)), vI (w32 (Int.tmod (h 149 s0) a2))] (mk h τ)
        refine a_icmp_eq (tgt := 1668) dL_law_1568 (by decide) (fun c1568_5 => ?_) (fun c1568_5 => ?_)
        · exact kE h N J (IV_up (by omega) hI)
        · refine a_iconst dL_law_1571 ⟨by decide, by decide⟩ ?_
          exact a_zret dL_law_1572 rfl (by first | exact Or.inl rfl | exact Or.inr rfl | omega) (by exfalso; omega)
      · have t1_1_3 : 0 ≤ ((s0 : Nat) : Int) ∧ ((s0 : Nat) : Int) ≤ 4 := t1_1_3
        have c16_3_3 : ¬ (h 148 s0) = 0 := c16_3_3
        have c30_5_3 : (h 148 s0) = 3 := c30_5_3
        have c37_6_3 : ¬ a2 = 0 := c37_6_3
        have c47_7_3 : a2 = (-1) := c47_7_3
        show Aj γ mL_law d mc ms Post 1568 [(0, vK 0), (1, vA 0), (2, vA 123), (3, vI ((i : Nat) : Int))] [vI 0, vI (w32 (Int.tmod (h 149 s0) a2))] (mk h τ)
        refine a_icmp_eq (tgt := 1668) dL_law_1568 (by decide) (fun c1568_6 => ?_) (fun c1568_6 => ?_)
        · exact kE h N J (IV_up (by omega) hI)
        · refine a_iconst dL_law_1571 ⟨by decide, by decide⟩ ?_
          exact a_zret dL_law_1572 rfl (by first | exact Or.inl rfl | exact Or.inr rfl | omega) (by exfalso; omega)
      · exfalso
        omega
      · exfalso
        omega
      · exfalso
        omega
      · exfalso
        omega
    · have t1_1_1 : 0 ≤ ((s0 : Nat) : Int) ∧ ((s0 : Nat) : Int) ≤ 4 := t1_1_1
      have c21_2_1 : ¬ (h 148 s0) = 0 := c21_2_1
      have c33_3_1 : (h 148 s0) = 3 := c33_3_1
      have c40_4_1 : a2 = 0 := c40_4_1
      show Aj γ mL_law d mc ms Post 1554 [(0, vK 0), (1, vA 0), (2, vA 123), (3, vI ((i : Nat) : Int))] [vI (-1000000002)] (mk h τ)
      refine a_aload_n (j := 2) dL_law_1554 rfl rfl (Nat.le_of_ble_eq_true rfl) ?_
      refine a_aload_n (j := 0) dL_law_1555 rfl rfl (Nat.le_of_ble_eq_true rfl) ?_
      refine a_iload_n (j := 3) dL_law_1556 rfl rfl ?_
      refine a_iconst dL_law_1557 ⟨by decide, by decide⟩ ?_
      refine a_iadd (z := (((i : Nat) : Int) + 1)) dL_law_1558 (w_ok (by omega) (by omega)) ?_
      refine a_sld (i + 1) dL_law_1559 (by omega) (by omega) ?_
      rw [ha1]
      refine a_aload_n (j := 0) dL_law_1560 rfl rfl (Nat.le_of_ble_eq_true rfl) ?_
      refine a_iload_n (j := 3) dL_law_1561 rfl rfl ?_
      refine a_iconst dL_law_1562 ⟨by decide, by decide⟩ ?_
      refine a_iadd (z := (((i : Nat) : Int) + 2)) dL_law_1563 (w_ok (by omega) (by omega)) ?_
      refine a_sld (i + 2) dL_law_1564 (by omega) (by omega) ?_
      rw [ha2]
      refine b_callV (d' := d - 1) (mc' := 0) (ms' := 0) (mc1 := mc) (ms1 := ms) (st := [vI (-1000000002)]) (b := 123) [vI ((s0 : Nat) : Int), vI a2] dL_law_1565 mwX9_rest lkL_187 (by decide) rfl rc_X9 rfl (Nat.le_of_ble_eq_true rfl) (by omega) (by omega) (by omega) (c_X9_rest (v1 := (h 148 s0)) (v2 := (h 149 s0)) (by omega)  rfl rfl  (fun t1_1_7 c16_3_7 c30_5_7 c37_6_7 c47_7_7 => ?_) (fun t1_1_7 c16_3_7 c30_5_7 c37_6_7 c47_7_7 => ?_) (fun t1_1_7 c16_3_7 c30_5_7 c37_6_7 => ?_) (fun t1_1_7 c16_3_7 c30_5_7 => ?_) (fun t1_1_7 c16_3_7 => ?_) (fun t1_1_7 => ?_))
      · exfalso
        omega
      · exfalso
        omega
      · have t1_1_7 : 0 ≤ ((s0 : Nat) : Int) ∧ ((s0 : Nat) : Int) ≤ 4 := t1_1_7
        have c16_3_7 : ¬ (h 148 s0) = 0 := c16_3_7
        have c30_5_7 : (h 148 s0) = 3 := c30_5_7
        have c37_6_7 : a2 = 0 := c37_6_7
        show Aj γ mL_law d mc ms Post 1568 [(0, vK 0), (1, vA 0), (2, vA 123), (3, vI ((i : Nat) : Int))] [vI (-1000000002), vI (-1000000002)] (mk h τ)
        refine a_icmp_eq (tgt := 1668) dL_law_1568 (by decide) (fun _ => ?_) (fun c => absurd c (by decide))
        exact kE h N J (IV_up (by omega) hI)
      · exfalso
        omega
      · exfalso
        omega
      · exfalso
        omega
    · have t1_1_1 : 0 ≤ ((s0 : Nat) : Int) ∧ ((s0 : Nat) : Int) ≤ 4 := t1_1_1
      have c21_2_1 : ¬ (h 148 s0) = 0 := c21_2_1
      have c33_3_1 : ¬ (h 148 s0) = 3 := c33_3_1
      show Aj γ mL_law d mc ms Post 1554 [(0, vK 0), (1, vA 0), (2, vA 123), (3, vI ((i : Nat) : Int))] [vI (-1000000012)] (mk h τ)
      refine a_aload_n (j := 2) dL_law_1554 rfl rfl (Nat.le_of_ble_eq_true rfl) ?_
      refine a_aload_n (j := 0) dL_law_1555 rfl rfl (Nat.le_of_ble_eq_true rfl) ?_
      refine a_iload_n (j := 3) dL_law_1556 rfl rfl ?_
      refine a_iconst dL_law_1557 ⟨by decide, by decide⟩ ?_
      refine a_iadd (z := (((i : Nat) : Int) + 1)) dL_law_1558 (w_ok (by omega) (by omega)) ?_
      refine a_sld (i + 1) dL_law_1559 (by omega) (by omega) ?_
      rw [ha1]
      refine a_aload_n (j := 0) dL_law_1560 rfl rfl (Nat.le_of_ble_eq_true rfl) ?_
      refine a_iload_n (j := 3) dL_law_1561 rfl rfl ?_
      refine a_iconst dL_law_1562 ⟨by decide, by decide⟩ ?_
      refine a_iadd (z := (((i : Nat) : Int) + 2)) dL_law_1563 (w_ok (by omega) (by omega)) ?_
      refine a_sld (i + 2) dL_law_1564 (by omega) (by omega) ?_
      rw [ha2]
      refine b_callV (d' := d - 1) (mc' := 0) (ms' := 0) (mc1 := mc) (ms1 := ms) (st := [vI (-1000000012)]) (b := 123) [vI ((s0 : Nat) : Int), vI a2] dL_law_1565 mwX9_rest lkL_187 (by decide) rfl rc_X9 rfl (Nat.le_of_ble_eq_true rfl) (by omega) (by omega) (by omega) (c_X9_rest (v1 := (h 148 s0)) (v2 := (h 149 s0)) (by omega)  rfl rfl  (fun t1_1_9 c16_3_9 c30_5_9 c37_6_9 c47_7_9 => ?_) (fun t1_1_9 c16_3_9 c30_5_9 c37_6_9 c47_7_9 => ?_) (fun t1_1_9 c16_3_9 c30_5_9 c37_6_9 => ?_) (fun t1_1_9 c16_3_9 c30_5_9 => ?_) (fun t1_1_9 c16_3_9 => ?_) (fun t1_1_9 => ?_))
      · exfalso
        omega
      · exfalso
        omega
      · exfalso
        omega
      · have t1_1_9 : 0 ≤ ((s0 : Nat) : Int) ∧ ((s0 : Nat) : Int) ≤ 4 := t1_1_9
        have c16_3_9 : ¬ (h 148 s0) = 0 := c16_3_9
        have c30_5_9 : ¬ (h 148 s0) = 3 := c30_5_9
        show Aj γ mL_law d mc ms Post 1568 [(0, vK 0), (1, vA 0), (2, vA 123), (3, vI ((i : Nat) : Int))] [vI (-1000000012), vI (-1000000012)] (mk h τ)
        refine a_icmp_eq (tgt := 1668) dL_law_1568 (by decide) (fun _ => ?_) (fun c => absurd c (by decide))
        exact kE h N J (IV_up (by omega) hI)
      · exfalso
        omega
      · exfalso
        omega
    · have t1_1_1 : 0 ≤ ((s0 : Nat) : Int) ∧ ((s0 : Nat) : Int) ≤ 4 := t1_1_1
      have c21_2_1 : (h 148 s0) = 0 := c21_2_1
      show Aj γ mL_law d mc ms Post 1554 [(0, vK 0), (1, vA 0), (2, vA 123), (3, vI ((i : Nat) : Int))] [vI (-1000000011)] (mk h τ)
      refine a_aload_n (j := 2) dL_law_1554 rfl rfl (Nat.le_of_ble_eq_true rfl) ?_
      refine a_aload_n (j := 0) dL_law_1555 rfl rfl (Nat.le_of_ble_eq_true rfl) ?_
      refine a_iload_n (j := 3) dL_law_1556 rfl rfl ?_
      refine a_iconst dL_law_1557 ⟨by decide, by decide⟩ ?_
      refine a_iadd (z := (((i : Nat) : Int) + 1)) dL_law_1558 (w_ok (by omega) (by omega)) ?_
      refine a_sld (i + 1) dL_law_1559 (by omega) (by omega) ?_
      rw [ha1]
      refine a_aload_n (j := 0) dL_law_1560 rfl rfl (Nat.le_of_ble_eq_true rfl) ?_
      refine a_iload_n (j := 3) dL_law_1561 rfl rfl ?_
      refine a_iconst dL_law_1562 ⟨by decide, by decide⟩ ?_
      refine a_iadd (z := (((i : Nat) : Int) + 2)) dL_law_1563 (w_ok (by omega) (by omega)) ?_
      refine a_sld (i + 2) dL_law_1564 (by omega) (by omega) ?_
      rw [ha2]
      refine b_callV (d' := d - 1) (mc' := 0) (ms' := 0) (mc1 := mc) (ms1 := ms) (st := [vI (-1000000011)]) (b := 123) [vI ((s0 : Nat) : Int), vI a2] dL_law_1565 mwX9_rest lkL_187 (by decide) rfl rc_X9 rfl (Nat.le_of_ble_eq_true rfl) (by omega) (by omega) (by omega) (c_X9_rest (v1 := (h 148 s0)) (v2 := (h 149 s0)) (by omega)  rfl rfl  (fun t1_1_11 c16_3_11 c30_5_11 c37_6_11 c47_7_11 => ?_) (fun t1_1_11 c16_3_11 c30_5_11 c37_6_11 c47_7_11 => ?_) (fun t1_1_11 c16_3_11 c30_5_11 c37_6_11 => ?_) (fun t1_1_11 c16_3_11 c30_5_11 => ?_) (fun t1_1_11 c16_3_11 => ?_) (fun t1_1_11 => ?_))
      · exfalso
        omega
      · exfalso
        omega
      · exfalso
        omega
      · exfalso
        omega
      · have t1_1_11 : 0 ≤ ((s0 : Nat) : Int) ∧ ((s0 : Nat) : Int) ≤ 4 := t1_1_11
        have c16_3_11 : (h 148 s0) = 0 := c16_3_11
        show Aj γ mL_law d mc ms Post 1568 [(0, vK 0), (1, vA 0), (2, vA 123), (3, vI ((i : Nat) : Int))] [vI (-1000000011), vI (-1000000011)] (mk h τ)
        refine a_icmp_eq (tgt := 1668) dL_law_1568 (by decide) (fun _ => ?_) (fun c => absurd c (by decide))
        exact kE h N J (IV_up (by omega) hI)
      · exfalso
        omega
    · exfalso
      omega
  · obtain rfl : a1 = ((s0 : Nat) : Int) := by omega
    obtain ⟨l0, l1, l2, l3, l4, l5⟩ := hO.2.2.1 s0 (by omega)
    refine a_aload_n (j := 1) dL_law_1540 rfl rfl (Nat.le_of_ble_eq_true rfl) ?_
    refine a_aload_n (j := 0) dL_law_1541 rfl rfl (Nat.le_of_ble_eq_true rfl) ?_
    refine a_iload_n (j := 3) dL_law_1542 rfl rfl ?_
    refine a_iconst dL_law_1543 ⟨by decide, by decide⟩ ?_
    refine a_iadd (z := (((i : Nat) : Int) + 1)) dL_law_1544 (w_ok (by omega) (by omega)) ?_
    refine a_sld (i + 1) dL_law_1545 (by omega) (by omega) ?_
    rw [ha1]
    refine a_aload_n (j := 0) dL_law_1546 rfl rfl (Nat.le_of_ble_eq_true rfl) ?_
    refine a_iload_n (j := 3) dL_law_1547 rfl rfl ?_
    refine a_iconst dL_law_1548 ⟨by decide, by decide⟩ ?_
    refine a_iadd (z := (((i : Nat) : Int) + 2)) dL_law_1549 (w_ok (by omega) (by omega)) ?_
    refine a_sld (i + 2) dL_law_1550 (by omega) (by omega) ?_
    rw [ha2]
    refine b_callV (d' := d - 1) (mc' := 0) (ms' := 0) (mc1 := mc) (ms1 := ms) (st := []) (b := 0) [vI ((s0 : Nat) : Int), vI a2] dL_law_1551 mwX8_rest lkL_184 (by decide) rfl rc_X8 rfl (Nat.le_of_ble_eq_true rfl) (by omega) (by omega) (by omega) (c_X8_rest (v1 := (h 148 s0)) (v2 := (h (98 + 5 * s0) 1)) (by omega)  l0 rfl  (fun t1_1_1 c21_2_1 c33_3_1 c40_4_1 => ?_) (fun t1_1_1 c21_2_1 c33_3_1 c40_4_1 => ?_) (fun t1_1_1 c21_2_1 c33_3_1 => ?_) (fun t1_1_1 c21_2_1 => ?_) (fun t1_1_1 => ?_))
    · have t1_1_1 : 0 ≤ ((s0 : Nat) : Int) ∧ ((s0 : Nat) : Int) ≤ 4 := t1_1_1
      have c21_2_1 : ¬ (h 148 s0) = 0 := c21_2_1
      have c33_3_1 : (h 148 s0) = 3 := c33_3_1
      have c40_4_1 : ¬ a2 = 0 := c40_4_1
      show Aj γ mL_law d mc ms Post 1554 [(0, vK 0), (1, vA 0), (2, vA 123), (3, vI ((i : Nat) : Int))] [vI (w32 (Int.tmod (h (98 + 5 * s0) 1) a2))] (mk h τ)
      refine a_aload_n (j := 2) dL_law_1554 rfl rfl (Nat.le_of_ble_eq_true rfl) ?_
      refine a_aload_n (j := 0) dL_law_1555 rfl rfl (Nat.le_of_ble_eq_true rfl) ?_
      refine a_iload_n (j := 3) dL_law_1556 rfl rfl ?_
      refine a_iconst dL_law_1557 ⟨by decide, by decide⟩ ?_
      refine a_iadd (z := (((i : Nat) : Int) + 1)) dL_law_1558 (w_ok (by omega) (by omega)) ?_
      refine a_sld (i + 1) dL_law_1559 (by omega) (by omega) ?_
      rw [ha1]
      refine a_aload_n (j := 0) dL_law_1560 rfl rfl (Nat.le_of_ble_eq_true rfl) ?_
      refine a_iload_n (j := 3) dL_law_1561 rfl rfl ?_
      refine a_iconst dL_law_1562 ⟨by decide, by decide⟩ ?_
      refine a_iadd (z := (((i : Nat) : Int) + 2)) dL_law_1563 (w_ok (by omega) (by omega)) ?_
      refine a_sld (i + 2) dL_law_1564 (by omega) (by omega) ?_
      rw [ha2]
      refine b_callV (d' := d - 1) (mc' := 0) (ms' := 0) (mc1 := mc) (ms1 := ms) (st := [vI (w32 (Int.tmod (h (98 + 5 * s0) 1) a2))]) (b := 123) [vI ((s0 : Nat) : Int), vI a2] dL_law_1565 mwX9_rest lkL_187 (by decide) rfl rc_X9 rfl (Nat.le_of_ble_eq_true rfl) (by omega) (by omega) (by omega) (c_X9_rest (v1 := (h 148 s0)) (v2 := (h 149 s0)) (by omega)  rfl rfl  (fun t1_1_3 c16_3_3 c30_5_3 c37_6_3 c47_7_3 => ?_) (fun t1_1_3 c16_3_3 c30_5_3 c37_6_3 c47_7_3 => ?_) (fun t1_1_3 c16_3_3 c30_5_3 c37_6_3 => ?_) (fun t1_1_3 c16_3_3 c30_5_3 => ?_) (fun t1_1_3 c16_3_3 => ?_) (fun t1_1_3 => ?_))
      · have t1_1_3 : 0 ≤ ((s0 : Nat) : Int) ∧ ((s0 : Nat) : Int) ≤ 4 := t1_1_3
        have c16_3_3 : ¬ (h 148 s0) = 0 := c16_3_3
        have c30_5_3 : (h 148 s0) = 3 := c30_5_3
        have c37_6_3 : ¬ a2 = 0 := c37_6_3
        have c47_7_3 : ¬ a2 = (-1) := c47_7_3
        show Aj γ mL_law d mc ms Post 1568 [(0, vK 0), (1, vA 0), (2, vA 123), (3, vI ((i : Nat) : Int))] [vI (w32 (Int.tmod (h 149 s0) a2)), vI (w32 (Int.tmod (h (98 + 5 * s0) 1) a2))] (mk h τ)
        refine a_icmp_eq (tgt := 1668) dL_law_1568 (by decide) (fun c1568_5 => ?_) (fun c1568_5 => ?_)
        · exact kE h N J (IV_up (by omega) hI)
        · refine a_iconst dL_law_1571 ⟨by decide, by decide⟩ ?_
          exact a_zret dL_law_1572 rfl (by first | exact Or.inl rfl | exact Or.inr rfl | omega) (by exfalso; omega)
      · have t1_1_3 : 0 ≤ ((s0 : Nat) : Int) ∧ ((s0 : Nat) : Int) ≤ 4 := t1_1_3
        have c16_3_3 : ¬ (h 148 s0) = 0 := c16_3_3
        have c30_5_3 : (h 148 s0) = 3 := c30_5_3
        have c37_6_3 : ¬ a2 = 0 := c37_6_3
        have c47_7_3 : a2 = (-1) := c47_7_3
        show Aj γ mL_law d mc ms Post 1568 [(0, vK 0), (1, vA 0), (2, vA 123), (3, vI ((i : Nat) : Int))] [vI 0, vI (w32 (Int.tmod (h (98 + 5 * s0) 1) a2))] (mk h τ)
        refine a_icmp_eq (tgt := 1668) dL_law_1568 (by decide) (fun c1568_6 => ?_) (fun c1568_6 => ?_)
        · exact kE h N J (IV_up (by omega) hI)
        · refine a_iconst dL_law_1571 ⟨by decide, by decide⟩ ?_
          exact a_zret dL_law_1572 rfl (by first | exact Or.inl rfl | exact Or.inr rfl | omega) (by exfalso; omega)
      · exfalso
        omega
      · exfalso
        omega
      · exfalso
        omega
      · exfalso
        omega
    · have t1_1_1 : 0 ≤ ((s0 : Nat) : Int) ∧ ((s0 : Nat) : Int) ≤ 4 := t1_1_1
      have c21_2_1 : ¬ (h 148 s0) = 0 := c21_2_1
      have c33_3_1 : (h 148 s0) = 3 := c33_3_1
      have c40_4_1 : a2 = 0 := c40_4_1
      show Aj γ mL_law d mc ms Post 1554 [(0, vK 0), (1, vA 0), (2, vA 123), (3, vI ((i : Nat) : Int))] [vI (-1000000002)] (mk h τ)
      refine a_aload_n (j := 2) dL_law_1554 rfl rfl (Nat.le_of_ble_eq_true rfl) ?_
      refine a_aload_n (j := 0) dL_law_1555 rfl rfl (Nat.le_of_ble_eq_true rfl) ?_
      refine a_iload_n (j := 3) dL_law_1556 rfl rfl ?_
      refine a_iconst dL_law_1557 ⟨by decide, by decide⟩ ?_
      refine a_iadd (z := (((i : Nat) : Int) + 1)) dL_law_1558 (w_ok (by omega) (by omega)) ?_
      refine a_sld (i + 1) dL_law_1559 (by omega) (by omega) ?_
      rw [ha1]
      refine a_aload_n (j := 0) dL_law_1560 rfl rfl (Nat.le_of_ble_eq_true rfl) ?_
      refine a_iload_n (j := 3) dL_law_1561 rfl rfl ?_
      refine a_iconst dL_law_1562 ⟨by decide, by decide⟩ ?_
      refine a_iadd (z := (((i : Nat) : Int) + 2)) dL_law_1563 (w_ok (by omega) (by omega)) ?_
      refine a_sld (i + 2) dL_law_1564 (by omega) (by omega) ?_
      rw [ha2]
      refine b_callV (d' := d - 1) (mc' := 0) (ms' := 0) (mc1 := mc) (ms1 := ms) (st := [vI (-1000000002)]) (b := 123) [vI ((s0 : Nat) : Int), vI a2] dL_law_1565 mwX9_rest lkL_187 (by decide) rfl rc_X9 rfl (Nat.le_of_ble_eq_true rfl) (by omega) (by omega) (by omega) (c_X9_rest (v1 := (h 148 s0)) (v2 := (h 149 s0)) (by omega)  rfl rfl  (fun t1_1_7 c16_3_7 c30_5_7 c37_6_7 c47_7_7 => ?_) (fun t1_1_7 c16_3_7 c30_5_7 c37_6_7 c47_7_7 => ?_) (fun t1_1_7 c16_3_7 c30_5_7 c37_6_7 => ?_) (fun t1_1_7 c16_3_7 c30_5_7 => ?_) (fun t1_1_7 c16_3_7 => ?_) (fun t1_1_7 => ?_))
      · exfalso
        omega
      · exfalso
        omega
      · have t1_1_7 : 0 ≤ ((s0 : Nat) : Int) ∧ ((s0 : Nat) : Int) ≤ 4 := t1_1_7
        have c16_3_7 : ¬ (h 148 s0) = 0 := c16_3_7
        have c30_5_7 : (h 148 s0) = 3 := c30_5_7
        have c37_6_7 : a2 = 0 := c37_6_7
        show Aj γ mL_law d mc ms Post 1568 [(0, vK 0), (1, vA 0), (2, vA 123), (3, vI ((i : Nat) : Int))] [vI (-1000000002), vI (-1000000002)] (mk h τ)
        refine a_icmp_eq (tgt := 1668) dL_law_1568 (by decide) (fun _ => ?_) (fun c => absurd c (by decide))
        exact kE h N J (IV_up (by omega) hI)
      · exfalso
        omega
      · exfalso
        omega
      · exfalso
        omega
    · have t1_1_1 : 0 ≤ ((s0 : Nat) : Int) ∧ ((s0 : Nat) : Int) ≤ 4 := t1_1_1
      have c21_2_1 : ¬ (h 148 s0) = 0 := c21_2_1
      have c33_3_1 : ¬ (h 148 s0) = 3 := c33_3_1
      show Aj γ mL_law d mc ms Post 1554 [(0, vK 0), (1, vA 0), (2, vA 123), (3, vI ((i : Nat) : Int))] [vI (-1000000012)] (mk h τ)
      refine a_aload_n (j := 2) dL_law_1554 rfl rfl (Nat.le_of_ble_eq_true rfl) ?_
      refine a_aload_n (j := 0) dL_law_1555 rfl rfl (Nat.le_of_ble_eq_true rfl) ?_
      refine a_iload_n (j := 3) dL_law_1556 rfl rfl ?_
      refine a_iconst dL_law_1557 ⟨by decide, by decide⟩ ?_
      refine a_iadd (z := (((i : Nat) : Int) + 1)) dL_law_1558 (w_ok (by omega) (by omega)) ?_
      refine a_sld (i + 1) dL_law_1559 (by omega) (by omega) ?_
      rw [ha1]
      refine a_aload_n (j := 0) dL_law_1560 rfl rfl (Nat.le_of_ble_eq_true rfl) ?_
      refine a_iload_n (j := 3) dL_law_1561 rfl rfl ?_
      refine a_iconst dL_law_1562 ⟨by decide, by decide⟩ ?_
      refine a_iadd (z := (((i : Nat) : Int) + 2)) dL_law_1563 (w_ok (by omega) (by omega)) ?_
      refine a_sld (i + 2) dL_law_1564 (by omega) (by omega) ?_
      rw [ha2]
      refine b_callV (d' := d - 1) (mc' := 0) (ms' := 0) (mc1 := mc) (ms1 := ms) (st := [vI (-1000000012)]) (b := 123) [vI ((s0 : Nat) : Int), vI a2] dL_law_1565 mwX9_rest lkL_187 (by decide) rfl rc_X9 rfl (Nat.le_of_ble_eq_true rfl) (by omega) (by omega) (by omega) (c_X9_rest (v1 := (h 148 s0)) (v2 := (h 149 s0)) (by omega)  rfl rfl  (fun t1_1_9 c16_3_9 c30_5_9 c37_6_9 c47_7_9 => ?_) (fun t1_1_9 c16_3_9 c30_5_9 c37_6_9 c47_7_9 => ?_) (fun t1_1_9 c16_3_9 c30_5_9 c37_6_9 => ?_) (fun t1_1_9 c16_3_9 c30_5_9 => ?_) (fun t1_1_9 c16_3_9 => ?_) (fun t1_1_9 => ?_))
      · exfalso
        omega
      · exfalso
        omega
      · exfalso
        omega
      · have t1_1_9 : 0 ≤ ((s0 : Nat) : Int) ∧ ((s0 : Nat) : Int) ≤ 4 := t1_1_9
        have c16_3_9 : ¬ (h 148 s0) = 0 := c16_3_9
        have c30_5_9 : ¬ (h 148 s0) = 3 := c30_5_9
        show Aj γ mL_law d mc ms Post 1568 [(0, vK 0), (1, vA 0), (2, vA 123), (3, vI ((i : Nat) : Int))] [vI (-1000000012), vI (-1000000012)] (mk h τ)
        refine a_icmp_eq (tgt := 1668) dL_law_1568 (by decide) (fun _ => ?_) (fun c => absurd c (by decide))
        exact kE h N J (IV_up (by omega) hI)
      · exfalso
        omega
      · exfalso
        omega
    · have t1_1_1 : 0 ≤ ((s0 : Nat) : Int) ∧ ((s0 : Nat) : Int) ≤ 4 := t1_1_1
      have c21_2_1 : (h 148 s0) = 0 := c21_2_1
      show Aj γ mL_law d mc ms Post 1554 [(0, vK 0), (1, vA 0), (2, vA 123), (3, vI ((i : Nat) : Int))] [vI (-1000000011)] (mk h τ)
      refine a_aload_n (j := 2) dL_law_1554 rfl rfl (Nat.le_of_ble_eq_true rfl) ?_
      refine a_aload_n (j := 0) dL_law_1555 rfl rfl (Nat.le_of_ble_eq_true rfl) ?_
      refine a_iload_n (j := 3) dL_law_1556 rfl rfl ?_
      refine a_iconst dL_law_1557 ⟨by decide, by decide⟩ ?_
      refine a_iadd (z := (((i : Nat) : Int) + 1)) dL_law_1558 (w_ok (by omega) (by omega)) ?_
      refine a_sld (i + 1) dL_law_1559 (by omega) (by omega) ?_
      rw [ha1]
      refine a_aload_n (j := 0) dL_law_1560 rfl rfl (Nat.le_of_ble_eq_true rfl) ?_
      refine a_iload_n (j := 3) dL_law_1561 rfl rfl ?_
      refine a_iconst dL_law_1562 ⟨by decide, by decide⟩ ?_
      refine a_iadd (z := (((i : Nat) : Int) + 2)) dL_law_1563 (w_ok (by omega) (by omega)) ?_
      refine a_sld (i + 2) dL_law_1564 (by omega) (by omega) ?_
      rw [ha2]
      refine b_callV (d' := d - 1) (mc' := 0) (ms' := 0) (mc1 := mc) (ms1 := ms) (st := [vI (-1000000011)]) (b := 123) [vI ((s0 : Nat) : Int), vI a2] dL_law_1565 mwX9_rest lkL_187 (by decide) rfl rc_X9 rfl (Nat.le_of_ble_eq_true rfl) (by omega) (by omega) (by omega) (c_X9_rest (v1 := (h 148 s0)) (v2 := (h 149 s0)) (by omega)  rfl rfl  (fun t1_1_11 c16_3_11 c30_5_11 c37_6_11 c47_7_11 => ?_) (fun t1_1_11 c16_3_11 c30_5_11 c37_6_11 c47_7_11 => ?_) (fun t1_1_11 c16_3_11 c30_5_11 c37_6_11 => ?_) (fun t1_1_11 c16_3_11 c30_5_11 => ?_) (fun t1_1_11 c16_3_11 => ?_) (fun t1_1_11 => ?_))
      · exfalso
        omega
      · exfalso
        omega
      · exfalso
        omega
      · exfalso
        omega
      · have t1_1_11 : 0 ≤ ((s0 : Nat) : Int) ∧ ((s0 : Nat) : Int) ≤ 4 := t1_1_11
        have c16_3_11 : (h 148 s0) = 0 := c16_3_11
        show Aj γ mL_law d mc ms Post 1568 [(0, vK 0), (1, vA 0), (2, vA 123), (3, vI ((i : Nat) : Int))] [vI (-1000000011), vI (-1000000011)] (mk h τ)
        refine a_icmp_eq (tgt := 1668) dL_law_1568 (by decide) (fun _ => ?_) (fun c => absurd c (by decide))
        exact kE h N J (IV_up (by omega) hI)
      · exfalso
        omega
    · exfalso
      omega
