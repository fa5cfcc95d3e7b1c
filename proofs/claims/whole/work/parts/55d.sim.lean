set_option maxHeartbeats 16000000 in
theorem s_copy {γ : GT} {d mc ms n i : Nat} {N J : Nat → Int} {h : Nat → Nat → Int} {τ : List AC} {Post : Option AV → List AC → Prop} (hd : 30 ≤ d) (hn : n < 64) (hi : i + 5 < g_L γ) (hL : g_L γ ≤ 384) (hI : IVp n h τ N J) (kE : ∀ h' N' J', IVp (n + 1) h' τ N' J' → Aj γ mL_law d mc ms Post 1668 [(0, vK 0), (1, vA 0), (2, vA 123), (3, vI ((i : Nat) : Int))] [] (mk h' τ)) : Aj γ mL_law d mc ms Post 1368 [(0, vK 0), (1, vA 0), (2, vA 123), (3, vI ((i : Nat) : Int))] [] (mk h τ) := by
  obtain ⟨hN, hJ, hX, hR, hk, hkK, hC, hRC, hst, hO⟩ := id hI
  have hsc := hX.1.1
  have hs1 := hsc.1
  have hs2 := hsc.2.1
  have hs3 := hsc.2.2.1
  have hs4 := hsc.2.2.2.1
  have hs5 := hsc.2.2.2.2
  have hs6 := hX.1.2.2.2.1
  have hx7 := hX.2.1
  have hx8 := hX.2.2.2.1
  obtain ⟨a1, ha1⟩ : ∃ z, (g_x γ (i + 1)).toInt = z := ⟨_, rfl⟩
  have ra1 : inI a1 := ha1 ▸ i32_rng _
  unfold inI at ra1
  obtain ⟨a2, ha2⟩ : ∃ z, (g_x γ (i + 2)).toInt = z := ⟨_, rfl⟩
  have ra2 : inI a2 := ha2 ▸ i32_rng _
  unfold inI at ra2
  obtain ⟨a3, ha3⟩ : ∃ z, (g_x γ (i + 3)).toInt = z := ⟨_, rfl⟩
  have ra3 : inI a3 := ha3 ▸ i32_rng _
  unfold inI at ra3
  obtain ⟨a4, ha4⟩ : ∃ z, (g_x γ (i + 4)).toInt = z := ⟨_, rfl⟩
  have ra4 : inI a4 := ha4 ▸ i32_rng _
  unfold inI at ra4
  obtain ⟨a5, ha5⟩ : ∃ z, (g_x γ (i + 5)).toInt = z := ⟨_, rfl⟩
  have ra5 : inI a5 := ha5 ▸ i32_rng _
  unfold inI at ra5
  rcases (show ¬ ((0 ≤ a1 ∧ a1 ≤ 3) ∧ (0 ≤ a3 ∧ a3 ≤ 3)) ∨ ((0 ≤ a1 ∧ a1 ≤ 3) ∧ (0 ≤ a3 ∧ a3 ≤ 3)) by omega) with hin | hin
  · skip
    have y1 : 0 ≤ a1 ∧ a1 < 4 → 0 ≤ h 146 (Int.toNat a1) ∧ h 146 (Int.toNat a1) ≤ 24 ∧ h (90 + 2 * Int.toNat a1) 1 = h 146 (Int.toNat a1) := fun p => by have w := hO.2.1 (Int.toNat a1) (by omega); exact ⟨w.2.2.2.1.1, w.2.2.2.1.2, w.2.1⟩
    have y3 : 0 ≤ a3 ∧ a3 < 4 → 0 ≤ h 146 (Int.toNat a3) ∧ h 146 (Int.toNat a3) ≤ 24 ∧ h (90 + 2 * Int.toNat a3) 1 = h 146 (Int.toNat a3) := fun p => by have w := hO.2.1 (Int.toNat a3) (by omega); exact ⟨w.2.2.2.1.1, w.2.2.2.1.2, w.2.1⟩
    refine a_aload_n (j := 1) dL_law_1368 rfl rfl (Nat.le_of_ble_eq_true rfl) ?_
    refine a_aload_n (j := 0) dL_law_1369 rfl rfl (Nat.le_of_ble_eq_true rfl) ?_
    refine a_iload_n (j := 3) dL_law_1370 rfl rfl ?_
    refine a_iconst dL_law_1371 ⟨by decide, by decide⟩ ?_
    refine a_iadd (z := (((i : Nat) : Int) + 1)) dL_law_1372 (w_ok (by omega) (by omega)) ?_
    refine a_sld (i + 1) dL_law_1373 (by omega) (by omega) ?_
    rw [ha1]
    refine a_aload_n (j := 0) dL_law_1374 rfl rfl (Nat.le_of_ble_eq_true rfl) ?_
    refine a_iload_n (j := 3) dL_law_1375 rfl rfl ?_
    refine a_iconst dL_law_1376 ⟨by decide, by decide⟩ ?_
    refine a_iadd (z := (((i : Nat) : Int) + 2)) dL_law_1377 (w_ok (by omega) (by omega)) ?_
    refine a_sld (i + 2) dL_law_1378 (by omega) (by omega) ?_
    rw [ha2]
    refine a_aload_n (j := 0) dL_law_1379 rfl rfl (Nat.le_of_ble_eq_true rfl) ?_
    refine a_iload_n (j := 3) dL_law_1380 rfl rfl ?_
    refine a_iconst dL_law_1381 ⟨by decide, by decide⟩ ?_
    refine a_iadd (z := (((i : Nat) : Int) + 3)) dL_law_1382 (w_ok (by omega) (by omega)) ?_
    refine a_sld (i + 3) dL_law_1383 (by omega) (by omega) ?_
    rw [ha3]
    refine a_aload_n (j := 0) dL_law_1384 rfl rfl (Nat.le_of_ble_eq_true rfl) ?_
    refine a_iload_n (j := 3) dL_law_1385 rfl rfl ?_
    refine a_iconst dL_law_1386 ⟨by decide, by decide⟩ ?_
    refine a_iadd (z := (((i : Nat) : Int) + 4)) dL_law_1387 (w_ok (by omega) (by omega)) ?_
    refine a_sld (i + 4) dL_law_1388 (by omega) (by omega) ?_
    rw [ha4]
    refine a_aload_n (j := 0) dL_law_1389 rfl rfl (Nat.le_of_ble_eq_true rfl) ?_
    refine a_iload_n (j := 3) dL_law_1390 rfl rfl ?_
    refine a_iconst dL_law_1391 ⟨by decide, by decide⟩ ?_
    refine a_iadd (z := (((i : Nat) : Int) + 5)) dL_law_1392 (w_ok (by omega) (by omega)) ?_
    refine a_sld (i + 5) dL_law_1393 (by omega) (by omega) ?_
    rw [ha5]
    refine b_callV (d' := d - 1) (mc' := 0) (ms' := 0) (mc1 := mc) (ms1 := ms) (st := []) (b := 0) [vI a1, vI a2, vI a3, vI a4, vI a5] dL_law_1394 mwX8_copy lkL_167 (by decide) rfl rc_X8 rfl (Nat.le_of_ble_eq_true rfl) (by omega) (by omega) (by omega) (c_X8_copy (v1 := (h (90 + 2 * (Int.toNat a1)) 1)) (v2 := (h (90 + 2 * (Int.toNat a3)) 1)) (v3 := (h (90 + 2 * (Int.toNat a1)) 0)) (v4 := (h (90 + 2 * (Int.toNat a3)) 0)) (f5 := (h ((90 + 2 * (Int.toNat a1)) + 1))) (f6 := (h ((90 + 2 * (Int.toNat a3)) + 1))) (by omega)  rfl rfl rfl rfl rfl rfl (show Im a1 4 (0 ≤ (h (90 + 2 * (Int.toNat a1)) 1) ∧ (h (90 + 2 * (Int.toNat a1)) 1) ≤ 24) from fun _ _ => (by omega)) (show Im a3 4 (0 ≤ (h (90 + 2 * (Int.toNat a3)) 1) ∧ (h (90 + 2 * (Int.toNat a3)) 1) ≤ 24) from fun _ _ => (by omega)) (fun t1_1_1 t8_2_1 c39_3_1 => ?_) (fun t1_1_1 t8_2_1 c39_3_1 c48_4_1 c65_5_1 t76_6_1 t88_7_1 => ?_) (fun t1_1_1 t8_2_1 c39_3_1 c48_4_1 c65_5_1 t76_6_1 t88_7_1 => ?_) (fun t1_1_1 t8_2_1 c39_3_1 c48_4_1 c65_5_1 t76_6_1 => ?_) (fun t1_1_1 t8_2_1 c39_3_1 c48_4_1 c65_5_1 => ?_) (fun t1_1_1 t8_2_1 c39_3_1 c48_4_1 => ?_) (fun t1_1_1 t8_2_1 => ?_) (fun t1_1_1 => ?_))
    · have t1_1_1 : 0 ≤ a1 ∧ a1 ≤ 3 := t1_1_1
      have t8_2_1 : 0 ≤ a3 ∧ a3 ≤ 3 := t8_2_1
      have c39_3_1 : (h (90 + 2 * (Int.toNat a1)) 0) = (-1) := c39_3_1
      show Aj γ mL_law d mc ms Post 1397 [(0, vK 0), (1, vA 0), (2, vA 123), (3, vI ((i : Nat) : Int))] [vI (-1000000011)] (mk h τ)
      refine a_aload_n (j := 2) dL_law_1397 rfl rfl (Nat.le_of_ble_eq_true rfl) ?_
      refine a_aload_n (j := 0) dL_law_1398 rfl rfl (Nat.le_of_ble_eq_true rfl) ?_
      refine a_iload_n (j := 3) dL_law_1399 rfl rfl ?_
      refine a_iconst dL_law_1400 ⟨by decide, by decide⟩ ?_
      refine a_iadd (z := (((i : Nat) : Int) + 1)) dL_law_1401 (w_ok (by omega) (by omega)) ?_
      refine a_sld (i + 1) dL_law_1402 (by omega) (by omega) ?_
      rw [ha1]
      refine a_aload_n (j := 0) dL_law_1403 rfl rfl (Nat.le_of_ble_eq_true rfl) ?_
      refine a_iload_n (j := 3) dL_law_1404 rfl rfl ?_
      refine a_iconst dL_law_1405 ⟨by decide, by decide⟩ ?_
      refine a_iadd (z := (((i : Nat) : Int) + 2)) dL_law_1406 (w_ok (by omega) (by omega)) ?_
      refine a_sld (i + 2) dL_law_1407 (by omega) (by omega) ?_
      rw [ha2]
      refine a_aload_n (j := 0) dL_law_1408 rfl rfl (Nat.le_of_ble_eq_true rfl) ?_
      refine a_iload_n (j := 3) dL_law_1409 rfl rfl ?_
      refine a_iconst dL_law_1410 ⟨by decide, by decide⟩ ?_
      refine a_iadd (z := (((i : Nat) : Int) + 3)) dL_law_1411 (w_ok (by omega) (by omega)) ?_
      refine a_sld (i + 3) dL_law_1412 (by omega) (by omega) ?_
      rw [ha3]
      refine a_aload_n (j := 0) dL_law_1413 rfl rfl (Nat.le_of_ble_eq_true rfl) ?_
      refine a_iload_n (j := 3) dL_law_1414 rfl rfl ?_
      refine a_iconst dL_law_1415 ⟨by decide, by decide⟩ ?_
      refine a_iadd (z := (((i : Nat) : Int) + 4)) dL_law_1416 (w_ok (by omega) (by omega)) ?_
      refine a_sld (i + 4) dL_law_1417 (by omega) (by omega) ?_
      rw [ha4]
      refine a_aload_n (j := 0) dL_law_1418 rfl rfl (Nat.le_of_ble_eq_true rfl) ?_
      refine a_iload_n (j := 3) dL_law_1419 rfl rfl ?_
      refine a_iconst dL_law_1420 ⟨by decide, by decide⟩ ?_
      refine a_iadd (z := (((i : Nat) : Int) + 5)) dL_law_1421 (w_ok (by omega) (by omega)) ?_
      refine a_sld (i + 5) dL_law_1422 (by omega) (by omega) ?_
      rw [ha5]
      refine b_callV (d' := d - 1) (mc' := 0) (ms' := 0) (mc1 := mc) (ms1 := ms) (st := [vI (-1000000011)]) (b := 123) [vI a1, vI a2, vI a3, vI a4, vI a5] dL_law_1423 mwX9_copy lkL_171 (by decide) rfl rc_X9 rfl (Nat.le_of_ble_eq_true rfl) (by omega) (by omega) (by omega) (c_X9_copy (v1 := (h 146 (Int.toNat a1))) (v2 := (h 146 (Int.toNat a3))) (v3 := (h 145 (Int.toNat a1))) (v4 := (h 145 (Int.toNat a3))) (f5 := (h 147)) (f6 := (h 152)) (by omega)  rfl rfl rfl rfl rfl rfl (show Im a1 4 (0 ≤ (h 146 (Int.toNat a1)) ∧ (h 146 (Int.toNat a1)) ≤ 24) from fun _ _ => (by omega)) (show Im a3 4 (0 ≤ (h 146 (Int.toNat a3)) ∧ (h 146 (Int.toNat a3)) ≤ 24) from fun _ _ => (by omega)) (fun t1_1_3 t8_2_3 c23_4_3 => ?_) (fun t1_1_3 t8_2_3 c23_4_3 c32_6_3 c51_9_3 c58_10_3 => ?_) (fun t1_1_3 t8_2_3 c23_4_3 c32_6_3 c51_9_3 c58_10_3 c63_11_3 => ?_) (fun t1_1_3 t8_2_3 c23_4_3 c32_6_3 c51_9_3 c58_10_3 c63_11_3 c68_12_3 => ?_) (fun t1_1_3 t8_2_3 c23_4_3 c32_6_3 c51_9_3 c58_10_3 c63_11_3 c68_12_3 c81_14_3 => ?_) (fun t1_1_3 t8_2_3 c23_4_3 c32_6_3 c51_9_3 c58_10_3 c63_11_3 c68_12_3 c81_14_3 c95_16_3 => ?_) (fun t1_1_3 t8_2_3 c23_4_3 c32_6_3 c51_9_3 c58_10_3 c63_11_3 c68_12_3 c81_14_3 c95_16_3 => ?_) (fun t1_1_3 t8_2_3 c23_4_3 c32_6_3 c51_9_3 => ?_) (fun t1_1_3 t8_2_3 c23_4_3 c32_6_3 => ?_) (fun t1_1_3 t8_2_3 => ?_) (fun t1_1_3 => ?_))
      · have t1_1_3 : 0 ≤ a1 ∧ a1 ≤ 3 := t1_1_3
        have t8_2_3 : 0 ≤ a3 ∧ a3 ≤ 3 := t8_2_3
        have c23_4_3 : (h 145 (Int.toNat a1)) < 0 := c23_4_3
        show Aj γ mL_law d mc ms Post 1426 [(0, vK 0), (1, vA 0), (2, vA 123), (3, vI ((i : Nat) : Int))] [vI (-1000000011), vI (-1000000011)] (mk h τ)
        refine a_icmp_eq (tgt := 1668) dL_law_1426 (by decide) (fun _ => ?_) (fun c => absurd c (by decide))
        exact kE h N J (IV_up (by omega) hI)
      · have t1_1_3 : 0 ≤ a1 ∧ a1 ≤ 3 := t1_1_3
        have t8_2_3 : 0 ≤ a3 ∧ a3 ≤ 3 := t8_2_3
        have c23_4_3 : ¬ (h 145 (Int.toNat a1)) < 0 := c23_4_3
        have c32_6_3 : 0 ≤ (h 145 (Int.toNat a3)) := c32_6_3
        have c51_9_3 : (h 145 (Int.toNat a1)) = (h 145 (Int.toNat a3)) := c51_9_3
        have c58_10_3 : a2 < 0 := c58_10_3
        show Aj γ mL_law d mc ms Post 1426 [(0, vK 0), (1, vA 0), (2, vA 123), (3, vI ((i : Nat) : Int))] [vI (-1000000013), vI (-1000000011)] (mk h τ)
        refine a_icmp_eq (tgt := 1668) dL_law_1426 (by decide) (fun c => absurd c (by decide)) (fun _ => ?_)
        refine a_iconst dL_law_1429 ⟨by decide, by decide⟩ ?_
        exact a_zret dL_law_1430 rfl (by first | exact Or.inl rfl | exact Or.inr rfl | omega) (by exfalso; omega)
      · have t1_1_3 : 0 ≤ a1 ∧ a1 ≤ 3 := t1_1_3
        have t8_2_3 : 0 ≤ a3 ∧ a3 ≤ 3 := t8_2_3
        have c23_4_3 : ¬ (h 145 (Int.toNat a1)) < 0 := c23_4_3
        have c32_6_3 : 0 ≤ (h 145 (Int.toNat a3)) := c32_6_3
        have c51_9_3 : (h 145 (Int.toNat a1)) = (h 145 (Int.toNat a3)) := c51_9_3
        have c58_10_3 : ¬ a2 < 0 := c58_10_3
        have c63_11_3 : a4 < 0 := c63_11_3
        show Aj γ mL_law d mc ms Post 1426 [(0, vK 0), (1, vA 0), (2, vA 123), (3, vI ((i : Nat) : Int))] [vI (-1000000013), vI (-1000000011)] (mk h τ)
        refine a_icmp_eq (tgt := 1668) dL_law_1426 (by decide) (fun c => absurd c (by decide)) (fun _ => ?_)
        refine a_iconst dL_law_1429 ⟨by decide, by decide⟩ ?_
        exact a_zret dL_law_1430 rfl (by first | exact Or.inl rfl | exact Or.inr rfl | omega) (by exfalso; omega)
      · have t1_1_3 : 0 ≤ a1 ∧ a1 ≤ 3 := t1_1_3
        have t8_2_3 : 0 ≤ a3 ∧ a3 ≤ 3 := t8_2_3
        have c23_4_3 : ¬ (h 145 (Int.toNat a1)) < 0 := c23_4_3
        have c32_6_3 : 0 ≤ (h 145 (Int.toNat a3)) := c32_6_3
        have c51_9_3 : (h 145 (Int.toNat a1)) = (h 145 (Int.toNat a3)) := c51_9_3
        have c58_10_3 : ¬ a2 < 0 := c58_10_3
        have c63_11_3 : ¬ a4 < 0 := c63_11_3
        have c68_12_3 : a5 < 0 := c68_12_3
        show Aj γ mL_law d mc ms Post 1426 [(0, vK 0), (1, vA 0), (2, vA 123), (3, vI ((i : Nat) : Int))] [vI (-1000000013), vI (-1000000011)] (mk h τ)
        refine a_icmp_eq (tgt := 1668) dL_law_1426 (by decide) (fun c => absurd c (by decide)) (fun _ => ?_)
        refine a_iconst dL_law_1429 ⟨by decide, by decide⟩ ?_
        exact a_zret dL_law_1430 rfl (by first | exact Or.inl rfl | exact Or.inr rfl | omega) (by exfalso; omega)
      · have t1_1_3 : 0 ≤ a1 ∧ a1 ≤ 3 := t1_1_3
        have t8_2_3 : 0 ≤ a3 ∧ a3 ≤ 3 := t8_2_3
        have c23_4_3 : ¬ (h 145 (Int.toNat a1)) < 0 := c23_4_3
        have c32_6_3 : 0 ≤ (h 145 (Int.toNat a3)) := c32_6_3
        have c51_9_3 : (h 145 (Int.toNat a1)) = (h 145 (Int.toNat a3)) := c51_9_3
        have c58_10_3 : ¬ a2 < 0 := c58_10_3
        have c63_11_3 : ¬ a4 < 0 := c63_11_3
        have c68_12_3 : ¬ a5 < 0 := c68_12_3
        have c81_14_3 : ((h 146 (Int.toNat a1)) - a5) < a2 := c81_14_3
        show Aj γ mL_law d mc ms Post 1426 [(0, vK 0), (1, vA 0), (2, vA 123), (3, vI ((i : Nat) : Int))] [vI (-1000000013), vI (-1000000011)] (mk h τ)
        refine a_icmp_eq (tgt := 1668) dL_law_1426 (by decide) (fun c => absurd c (by decide)) (fun _ => ?_)
        refine a_iconst dL_law_1429 ⟨by decide, by decide⟩ ?_
        exact a_zret dL_law_1430 rfl (by first | exact Or.inl rfl | exact Or.inr rfl | omega) (by exfalso; omega)
      · have t1_1_3 : 0 ≤ a1 ∧ a1 ≤ 3 := t1_1_3
        have t8_2_3 : 0 ≤ a3 ∧ a3 ≤ 3 := t8_2_3
        have c23_4_3 : ¬ (h 145 (Int.toNat a1)) < 0 := c23_4_3
        have c32_6_3 : 0 ≤ (h 145 (Int.toNat a3)) := c32_6_3
        have c51_9_3 : (h 145 (Int.toNat a1)) = (h 145 (Int.toNat a3)) := c51_9_3
        have c58_10_3 : ¬ a2 < 0 := c58_10_3
        have c63_11_3 : ¬ a4 < 0 := c63_11_3
        have c68_12_3 : ¬ a5 < 0 := c68_12_3
        have c81_14_3 : ¬ ((h 146 (Int.toNat a1)) - a5) < a2 := c81_14_3
        have c95_16_3 : a4 ≤ ((h 146 (Int.toNat a3)) - a5) := c95_16_3
        show Aj γ mL_law d mc ms Post 1426 [(0, vK 0), (1, vA 0), (2, vA 123), (3, vI ((i : Nat) : Int))] [vI a5, vI (-1000000011)] (mk (upR (upR h 152 (cpy (h 147) (h 152) (Int.toNat ((24 * a1) + a2)) 0 (Int.toNat a5))) 147 (cpy (cpy (h 147) (h 152) (Int.toNat ((24 * a1) + a2)) 0 (Int.toNat a5)) (h 147) 0 (Int.toNat ((24 * a3) + a4)) (Int.toNat a5))) τ)
        refine a_icmp_eq (tgt := 1668) dL_law_1426 (by decide) (fun c1426_5 => ?_) (fun c1426_5 => ?_)
        · exfalso
          omega
        · refine a_iconst dL_law_1429 ⟨by decide, by decide⟩ ?_
          exact a_zret dL_law_1430 rfl (by first | exact Or.inl rfl | exact Or.inr rfl | omega) (by exfalso; omega)
      · have t1_1_3 : 0 ≤ a1 ∧ a1 ≤ 3 := t1_1_3
        have t8_2_3 : 0 ≤ a3 ∧ a3 ≤ 3 := t8_2_3
        have c23_4_3 : ¬ (h 145 (Int.toNat a1)) < 0 := c23_4_3
        have c32_6_3 : 0 ≤ (h 145 (Int.toNat a3)) := c32_6_3
        have c51_9_3 : (h 145 (Int.toNat a1)) = (h 145 (Int.toNat a3)) := c51_9_3
        have c58_10_3 : ¬ a2 < 0 := c58_10_3
        have c63_11_3 : ¬ a4 < 0 := c63_11_3
        have c68_12_3 : ¬ a5 < 0 := c68_12_3
        have c81_14_3 : ¬ ((h 146 (Int.toNat a1)) - a5) < a2 := c81_14_3
        have c95_16_3 : ¬ a4 ≤ ((h 146 (Int.toNat a3)) - a5) := c95_16_3
        show Aj γ mL_law d mc ms Post 1426 [(0, vK 0), (1, vA 0), (2, vA 123), (3, vI ((i : Nat) : Int))] [vI (-1000000013), vI (-1000000011)] (mk h τ)
        refine a_icmp_eq (tgt := 1668) dL_law_1426 (by decide) (fun c => absurd c (by decide)) (fun _ => ?_)
        refine a_iconst dL_law_1429 ⟨by decide, by decide⟩ ?_
        exact a_zret dL_law_1430 rfl (by first | exact Or.inl rfl | exact Or.inr rfl | omega) (by exfalso; omega)
      · have t1_1_3 : 0 ≤ a1 ∧ a1 ≤ 3 := t1_1_3
        have t8_2_3 : 0 ≤ a3 ∧ a3 ≤ 3 := t8_2_3
        have c23_4_3 : ¬ (h 145 (Int.toNat a1)) < 0 := c23_4_3
        have c32_6_3 : 0 ≤ (h 145 (Int.toNat a3)) := c32_6_3
        have c51_9_3 : ¬ (h 145 (Int.toNat a1)) = (h 145 (Int.toNat a3)) := c51_9_3
        show Aj γ mL_law d mc ms Post 1426 [(0, vK 0), (1, vA 0), (2, vA 123), (3, vI ((i : Nat) : Int))] [vI (-1000000012), vI (-1000000011)] (mk h τ)
        refine a_icmp_eq (tgt := 1668) dL_law_1426 (by decide) (fun c => absurd c (by decide)) (fun _ => ?_)
        refine a_iconst dL_law_1429 ⟨by decide, by decide⟩ ?_
        exact a_zret dL_law_1430 rfl (by first | exact Or.inl rfl | exact Or.inr rfl | omega) (by exfalso; omega)
      · have t1_1_3 : 0 ≤ a1 ∧ a1 ≤ 3 := t1_1_3
        have t8_2_3 : 0 ≤ a3 ∧ a3 ≤ 3 := t8_2_3
        have c23_4_3 : ¬ (h 145 (Int.toNat a1)) < 0 := c23_4_3
        have c32_6_3 : ¬ 0 ≤ (h 145 (Int.toNat a3)) := c32_6_3
        show Aj γ mL_law d mc ms Post 1426 [(0, vK 0), (1, vA 0), (2, vA 123), (3, vI ((i : Nat) : Int))] [vI (-1000000011), vI (-1000000011)] (mk h τ)
        refine a_icmp_eq (tgt := 1668) dL_law_1426 (by decide) (fun _ => ?_) (fun c => absurd c (by decide))
        exact kE h N J (IV_up (by omega) hI)
      · exfalso
        omega
      · exfalso
        omega
    · have t1_1_1 : 0 ≤ a1 ∧ a1 ≤ 3 := t1_1_1
      have t8_2_1 : 0 ≤ a3 ∧ a3 ≤ 3 := t8_2_1
      have c39_3_1 : ¬ (h (90 + 2 * (Int.toNat a1)) 0) = (-1) := c39_3_1
      have c48_4_1 : ¬ (h (90 + 2 * (Int.toNat a3)) 0) = (-1) := c48_4_1
      have c65_5_1 : (h (90 + 2 * (Int.toNat a1)) 0) = (h (90 + 2 * (Int.toNat a3)) 0) := c65_5_1
      have t76_6_1 : (0 ≤ a2 ∧ a2 ≤ (h (90 + 2 * (Int.toNat a1)) 1)) ∧ (0 ≤ a5 ∧ a5 ≤ (h (90 + 2 * (Int.toNat a1)) 1) - a2) := t76_6_1
      have t88_7_1 : (0 ≤ a4 ∧ a4 ≤ (h (90 + 2 * (Int.toNat a3)) 1)) ∧ (0 ≤ a5 ∧ a5 ≤ (h (90 + 2 * (Int.toNat a3)) 1) - a4) := t88_7_1
      show Aj γ mL_law d mc ms Post 1397 [(0, vK 0), (1, vA 0), (2, vA 123), (3, vI ((i : Nat) : Int))] [vI a5] (mk (upR h ((90 + 2 * (Int.toNat a3)) + 1) (cpy (h ((90 + 2 * (Int.toNat a1)) + 1)) (h ((90 + 2 * (Int.toNat a3)) + 1)) (Int.toNat a2) (Int.toNat a4) (Int.toNat a5))) τ)
      refine a_aload_n (j := 2) dL_law_1397 rfl rfl (Nat.le_of_ble_eq_true rfl) ?_
      refine a_aload_n (j := 0) dL_law_1398 rfl rfl (Nat.le_of_ble_eq_true rfl) ?_
      refine a_iload_n (j := 3) dL_law_1399 rfl rfl ?_
      refine a_iconst dL_law_1400 ⟨by decide, by decide⟩ ?_
      refine a_iadd (z := (((i : Nat) : Int) + 1)) dL_law_1401 (w_ok (by omega) (by omega)) ?_
      refine a_sld (i + 1) dL_law_1402 (by omega) (by omega) ?_
      rw [ha1]
      refine a_aload_n (j := 0) dL_law_1403 rfl rfl (Nat.le_of_ble_eq_true rfl) ?_
      refine a_iload_n (j := 3) dL_law_1404 rfl rfl ?_
      refine a_iconst dL_law_1405 ⟨by decide, by decide⟩ ?_
      refine a_iadd (z := (((i : Nat) : Int) + 2)) dL_law_1406 (w_ok (by omega) (by omega)) ?_
      refine a_sld (i + 2) dL_law_1407 (by omega) (by omega) ?_
      rw [ha2]
      refine a_aload_n (j := 0) dL_law_1408 rfl rfl (Nat.le_of_ble_eq_true rfl) ?_
      refine a_iload_n (j := 3) dL_law_1409 rfl rfl ?_
      refine a_iconst dL_law_1410 ⟨by decide, by decide⟩ ?_
      refine a_iadd (z := (((i : Nat) : Int) + 3)) dL_law_1411 (w_ok (by omega) (by omega)) ?_
      refine a_sld (i + 3) dL_law_1412 (by omega) (by omega) ?_
      rw [ha3]
      refine a_aload_n (j := 0) dL_law_1413 rfl rfl (Nat.le_of_ble_eq_true rfl) ?_
      refine a_iload_n (j := 3) dL_law_1414 rfl rfl ?_
      refine a_iconst dL_law_1415 ⟨by decide, by decide⟩ ?_
      refine a_iadd (z := (((i : Nat) : Int) + 4)) dL_law_1416 (w_ok (by omega) (by omega)) ?_
      refine a_sld (i + 4) dL_law_1417 (by omega) (by omega) ?_
      rw [ha4]
      refine a_aload_n (j := 0) dL_law_1418 rfl rfl (Nat.le_of_ble_eq_true rfl) ?_
      refine a_iload_n (j := 3) dL_law_1419 rfl rfl ?_
      refine a_iconst dL_law_1420 ⟨by decide, by decide⟩ ?_
      refine a_iadd (z := (((i : Nat) : Int) + 5)) dL_law_1421 (w_ok (by omega) (by omega)) ?_
      refine a_sld (i + 5) dL_law_1422 (by omega) (by omega) ?_
      rw [ha5]
      refine b_callV (d' := d - 1) (mc' := 0) (ms' := 0) (mc1 := mc) (ms1 := ms) (st := [vI a5]) (b := 123) [vI a1, vI a2, vI a3, vI a4, vI a5] dL_law_1423 mwX9_copy lkL_171 (by decide) rfl rc_X9 rfl (Nat.le_of_ble_eq_true rfl) (by omega) (by omega) (by omega) (c_X9_copy (v1 := (h 146 (Int.toNat a1))) (v2 := (h 146 (Int.toNat a3))) (v3 := (h 145 (Int.toNat a1))) (v4 := (h 145 (Int.toNat a3))) (f5 := (h 147)) (f6 := (h 152)) (by omega)  ((upR_ne (by omega)).trans rfl) ((upR_ne (by omega)).trans rfl) ((upR_ne (by omega)).trans rfl) ((upR_ne (by omega)).trans rfl) ((upR_rn (by omega)).trans rfl) ((upR_rn (by omega)).trans rfl) (show Im a1 4 (0 ≤ (h 146 (Int.toNat a1)) ∧ (h 146 (Int.toNat a1)) ≤ 24) from fun _ _ => (by omega)) (show Im a3 4 (0 ≤ (h 146 (Int.toNat a3)) ∧ (h 146 (Int.toNat a3)) ≤ 24) from fun _ _ => (by omega)) (fun t1_1_6 t8_2_6 c23_4_6 => ?_) (fun t1_1_6 t8_2_6 c23_4_6 c32_6_6 c51_9_6 c58_10_6 => ?_) (fun t1_1_6 t8_2_6 c23_4_6 c32_6_6 c51_9_6 c58_10_6 c63_11_6 => ?_) (fun t1_1_6 t8_2_6 c23_4_6 c32_6_6 c51_9_6 c58_10_6 c63_11_6 c68_12_6 => ?_) (fun t1_1_6 t8_2_6 c23_4_6 c32_6_6 c51_9_6 c58_10_6 c63_11_6 c68_12_6 c81_14_6 => ?_) (fun t1_1_6 t8_2_6 c23_4_6 c32_6_6 c51_9_6 c58_10_6 c63_11_6 c68_12_6 c81_14_6 c95_16_6 => ?_) (fun t1_1_6 t8_2_6 c23_4_6 c32_6_6 c51_9_6 c58_10_6 c63_11_6 c68_12_6 c81_14_6 c95_16_6 => ?_) (fun t1_1_6 t8_2_6 c23_4_6 c32_6_6 c51_9_6 => ?_) (fun t1_1_6 t8_2_6 c23_4_6 c32_6_6 => ?_) (fun t1_1_6 t8_2_6 => ?_) (fun t1_1_6 => ?_))
      · have t1_1_6 : 0 ≤ a1 ∧ a1 ≤ 3 := t1_1_6
        have t8_2_6 : 0 ≤ a3 ∧ a3 ≤ 3 := t8_2_6
        have c23_4_6 : (h 145 (Int.toNat a1)) < 0 := c23_4_6
        show Aj γ mL_law d mc ms Post 1426 [(0, vK 0), (1, vA 0), (2, vA 123), (3, vI ((i : Nat) : Int))] [vI (-1000000011), vI a5] (mk (upR h ((90 + 2 * (Int.toNat a3)) + 1) (cpy (h ((90 + 2 * (Int.toNat a1)) + 1)) (h ((90 + 2 * (Int.toNat a3)) + 1)) (Int.toNat a2) (Int.toNat a4) (Int.toNat a5))) τ)
        refine a_icmp_eq (tgt := 1668) dL_law_1426 (by decide) (fun c1426_8 => ?_) (fun c1426_8 => ?_)
        · exfalso
          omega
        · refine a_iconst dL_law_1429 ⟨by decide, by decide⟩ ?_
          exact a_zret dL_law_1430 rfl (by first | exact Or.inl rfl | exact Or.inr rfl | omega) (by exfalso; omega)
      · have t1_1_6 : 0 ≤ a1 ∧ a1 ≤ 3 := t1_1_6
        have t8_2_6 : 0 ≤ a3 ∧ a3 ≤ 3 := t8_2_6
        have c23_4_6 : ¬ (h 145 (Int.toNat a1)) < 0 := c23_4_6
        have c32_6_6 : 0 ≤ (h 145 (Int.toNat a3)) := c32_6_6
        have c51_9_6 : (h 145 (Int.toNat a1)) = (h 145 (Int.toNat a3)) := c51_9_6
        have c58_10_6 : a2 < 0 := c58_10_6
        show Aj γ mL_law d mc ms Post 1426 [(0, vK 0), (1, vA 0), (2, vA 123), (3, vI ((i : Nat) : Int))] [vI (-1000000013), vI a5] (mk (upR h ((90 + 2 * (Int.toNat a3)) + 1) (cpy (h ((90 + 2 * (Int.toNat a1)) + 1)) (h ((90 + 2 * (Int.toNat a3)) + 1)) (Int.toNat a2) (Int.toNat a4) (Int.toNat a5))) τ)
        refine a_icmp_eq (tgt := 1668) dL_law_1426 (by decide) (fun c1426_9 => ?_) (fun c1426_9 => ?_)
        · exfalso
          omega
        · refine a_iconst dL_law_1429 ⟨by decide, by decide⟩ ?_
          exact a_zret dL_law_1430 rfl (by first | exact Or.inl rfl | exact Or.inr rfl | omega) (by exfalso; omega)
      · have t1_1_6 : 0 ≤ a1 ∧ a1 ≤ 3 := t1_1_6
        have t8_2_6 : 0 ≤ a3 ∧ a3 ≤ 3 := t8_2_6
        have c23_4_6 : ¬ (h 145 (Int.toNat a1)) < 0 := c23_4_6
        have c32_6_6 : 0 ≤ (h 145 (Int.toNat a3)) := c32_6_6
        have c51_9_6 : (h 145 (Int.toNat a1)) = (h 145 (Int.toNat a3)) := c51_9_6
        have c58_10_6 : ¬ a2 < 0 := c58_10_6
        have c63_11_6 : a4 < 0 := c63_11_6
        show Aj γ mL_law d mc ms Post 1426 [(0, vK 0), (1, vA 0), (2, vA 123), (3, vI ((i : Nat) : Int))] [vI (-1000000013), vI a5] (mk (upR h ((90 + 2 * (Int.toNat a3)) + 1) (cpy (h ((90 + 2 * (Int.toNat a1)) + 1)) (h ((90 + 2 * (Int.toNat a3)) + 1)) (Int.toNat a2) (Int.toNat a4) (Int.toNat a5))) τ)
        refine a_icmp_eq (tgt := 1668) dL_law_1426 (by decide) (fun c1426_10 => ?_) (fun c1426_10 => ?_)
        · exfalso
          omega
        · refine a_iconst dL_law_1429 ⟨by decide, by decide⟩ ?_
          exact a_zret dL_law_1430 rfl (by first | exact Or.inl rfl | exact Or.inr rfl | omega) (by exfalso; omega)
      · have t1_1_6 : 0 ≤ a1 ∧ a1 ≤ 3 := t1_1_6
        have t8_2_6 : 0 ≤ a3 ∧ a3 ≤ 3 := t8_2_6
        have c23_4_6 : ¬ (h 145 (Int.toNat a1)) < 0 := c23_4_6
        have c32_6_6 : 0 ≤ (h 145 (Int.toNat a3)) := c32_6_6
        have c51_9_6 : (h 145 (Int.toNat a1)) = (h 145 (Int.toNat a3)) := c51_9_6
        have c58_10_6 : ¬ a2 < 0 := c58_10_6
        have c63_11_6 : ¬ a4 < 0 := c63_11_6
        have c68_12_6 : a5 < 0 := c68_12_6
        show Aj γ mL_law d mc ms Post 1426 [(0, vK 0), (1, vA 0), (2, vA 123), (3, vI ((i : Nat) : Int))] [vI (-1000000013), vI a5] (mk (upR h ((90 + 2 * (Int.toNat a3)) + 1) (cpy (h ((90 + 2 * (Int.toNat a1)) + 1)) (h ((90 + 2 * (Int.toNat a3)) + 1)) (Int.toNat a2) (Int.toNat a4) (Int.toNat a5))) τ)
        refine a_icmp_eq (tgt := 1668) dL_law_1426 (by decide) (fun c1426_11 => ?_) (fun c1426_11 => ?_)
        · exfalso
          omega
        · refine a_iconst dL_law_1429 ⟨by decide, by decide⟩ ?_
          exact a_zret dL_law_1430 rfl (by first | exact Or.inl rfl | exact Or.inr rfl | omega) (by exfalso; omega)
      · have t1_1_6 : 0 ≤ a1 ∧ a1 ≤ 3 := t1_1_6
        have t8_2_6 : 0 ≤ a3 ∧ a3 ≤ 3 := t8_2_6
        have c23_4_6 : ¬ (h 145 (Int.toNat a1)) < 0 := c23_4_6
        have c32_6_6 : 0 ≤ (h 145 (Int.toNat a3)) := c32_6_6
        have c51_9_6 : (h 145 (Int.toNat a1)) = (h 145 (Int.toNat a3)) := c51_9_6
        have c58_10_6 : ¬ a2 < 0 := c58_10_6
        have c63_11_6 : ¬ a4 < 0 := c63_11_6
        have c68_12_6 : ¬ a5 < 0 := c68_12_6
        have c81_14_6 : ((h 146 (Int.toNat a1)) - a5) < a2 := c81_14_6
        show Aj γ mL_law d mc ms Post 1426 [(0, vK 0), (1, vA 0), (2, vA 123), (3, vI ((i : Nat) : Int))] [vI (-1000000013), vI a5] (mk (upR h ((90 + 2 * (Int.toNat a3)) + 1) (cpy (h ((90 + 2 * (Int.toNat a1)) + 1)) (h ((90 + 2 * (Int.toNat a3)) + 1)) (Int.toNat a2) (Int.toNat a4) (Int.toNat a5))) τ)
        refine a_icmp_eq (tgt := 1668) dL_law_1426 (by decide) (fun c1426_12 => ?_) (fun c1426_12 => ?_)
        · exfalso
          omega
        · refine a_iconst dL_law_1429 ⟨by decide, by decide⟩ ?_
          exact a_zret dL_law_1430 rfl (by first | exact Or.inl rfl | exact Or.inr rfl | omega) (by exfalso; omega)
      · have t1_1_6 : 0 ≤ a1 ∧ a1 ≤ 3 := t1_1_6
        have t8_2_6 : 0 ≤ a3 ∧ a3 ≤ 3 := t8_2_6
        have c23_4_6 : ¬ (h 145 (Int.toNat a1)) < 0 := c23_4_6
        have c32_6_6 : 0 ≤ (h 145 (Int.toNat a3)) := c32_6_6
        have c51_9_6 : (h 145 (Int.toNat a1)) = (h 145 (Int.toNat a3)) := c51_9_6
        have c58_10_6 : ¬ a2 < 0 := c58_10_6
        have c63_11_6 : ¬ a4 < 0 := c63_11_6
        have c68_12_6 : ¬ a5 < 0 := c68_12_6
        have c81_14_6 : ¬ ((h 146 (Int.toNat a1)) - a5) < a2 := c81_14_6
        have c95_16_6 : a4 ≤ ((h 146 (Int.toNat a3)) - a5) := c95_16_6
        show Aj γ mL_law d mc ms Post 1426 [(0, vK 0), (1, vA 0), (2, vA 123), (3, vI ((i : Nat) : Int))] [vI a5, vI a5] (mk (upR (upR (upR h ((90 + 2 * (Int.toNat a3)) + 1) (cpy (h ((90 + 2 * (Int.toNat a1)) + 1)) (h ((90 + 2 * (Int.toNat a3)) + 1)) (Int.toNat a2) (Int.toNat a4) (Int.toNat a5))) 152 (cpy (h 147) (h 152) (Int.toNat ((24 * a1) + a2)) 0 (Int.toNat a5))) 147 (cpy (cpy (h 147) (h 152) (Int.toNat ((24 * a1) + a2)) 0 (Int.toNat a5)) (h 147) 0 (Int.toNat ((24 * a3) + a4)) (Int.toNat a5))) τ)
        refine a_icmp_eq (tgt := 1668) dL_law_1426 (by decide) (fun c1426_13 => ?_) (fun c1426_13 => ?_)
        · exfalso
          omega
        · refine a_iconst dL_law_1429 ⟨by decide, by decide⟩ ?_
          exact a_zret dL_law_1430 rfl (by first | exact Or.inl rfl | exact Or.inr rfl | omega) (by exfalso; omega)
      · have t1_1_6 : 0 ≤ a1 ∧ a1 ≤ 3 := t1_1_6
        have t8_2_6 : 0 ≤ a3 ∧ a3 ≤ 3 := t8_2_6
        have c23_4_6 : ¬ (h 145 (Int.toNat a1)) < 0 := c23_4_6
        have c32_6_6 : 0 ≤ (h 145 (Int.toNat a3)) := c32_6_6
        have c51_9_6 : (h 145 (Int.toNat a1)) = (h 145 (Int.toNat a3)) := c51_9_6
        have c58_10_6 : ¬ a2 < 0 := c58_10_6
        have c63_11_6 : ¬ a4 < 0 := c63_11_6
        have c68_12_6 : ¬ a5 < 0 := c68_12_6
        have c81_14_6 : ¬ ((h 146 (Int.toNat a1)) - a5) < a2 := c81_14_6
        have c95_16_6 : ¬ a4 ≤ ((h 146 (Int.toNat a3)) - a5) := c95_16_6
        show Aj γ mL_law d mc ms Post 1426 [(0, vK 0), (1, vA 0), (2, vA 123), (3, vI ((i : Nat) : Int))] [vI (-1000000013), vI a5] (mk (upR h ((90 + 2 * (Int.toNat a3)) + 1) (cpy (h ((90 + 2 * (Int.toNat a1)) + 1)) (h ((90 + 2 * (Int.toNat a3)) + 1)) (Int.toNat a2) (Int.toNat a4) (Int.toNat a5))) τ)
        refine a_icmp_eq (tgt := 1668) dL_law_1426 (by decide) (fun c1426_14 => ?_) (fun c1426_14 => ?_)
        · exfalso
          omega
        · refine a_iconst dL_law_1429 ⟨by decide, by decide⟩ ?_
          exact a_zret dL_law_1430 rfl (by first | exact Or.inl rfl | exact Or.inr rfl | omega) (by exfalso; omega)
      · have t1_1_6 : 0 ≤ a1 ∧ a1 ≤ 3 := t1_1_6
        have t8_2_6 : 0 ≤ a3 ∧ a3 ≤ 3 := t8_2_6
        have c23_4_6 : ¬ (h 145 (Int.toNat a1)) < 0 := c23_4_6
        have c32_6_6 : 0 ≤ (h 145 (Int.toNat a3)) := c32_6_6
        have c51_9_6 : ¬ (h 145 (Int.toNat a1)) = (h 145 (Int.toNat a3)) := c51_9_6
        show Aj γ mL_law d mc ms Post 1426 [(0, vK 0), (1, vA 0), (2, vA 123), (3, vI ((i : Nat) : Int))] [vI (-1000000012), vI a5] (mk (upR h ((90 + 2 * (Int.toNat a3)) + 1) (cpy (h ((90 + 2 * (Int.toNat a1)) + 1)) (h ((90 + 2 * (Int.toNat a3)) + 1)) (Int.toNat a2) (Int.toNat a4) (Int.toNat a5))) τ)
        refine a_icmp_eq (tgt := 1668) dL_law_1426 (by decide) (fun c1426_15 => ?_) (fun c1426_15 => ?_)
        · exfalso
          omega
        · refine a_iconst dL_law_1429 ⟨by decide, by decide⟩ ?_
          exact a_zret dL_law_1430 rfl (by first | exact Or.inl rfl | exact Or.inr rfl | omega) (by exfalso; omega)
      · have t1_1_6 : 0 ≤ a1 ∧ a1 ≤ 3 := t1_1_6
        have t8_2_6 : 0 ≤ a3 ∧ a3 ≤ 3 := t8_2_6
        have c23_4_6 : ¬ (h 145 (Int.toNat a1)) < 0 := c23_4_6
        have c32_6_6 : ¬ 0 ≤ (h 145 (Int.toNat a3)) := c32_6_6
        show Aj γ mL_law d mc ms Post 1426 [(0, vK 0), (1, vA 0), (2, vA 123), (3, vI ((i : Nat) : Int))] [vI (-1000000011), vI a5] (mk (upR h ((90 + 2 * (Int.toNat a3)) + 1) (cpy (h ((90 + 2 * (Int.toNat a1)) + 1)) (h ((90 + 2 * (Int.toNat a3)) + 1)) (Int.toNat a2) (Int.toNat a4) (Int.toNat a5))) τ)
        refine a_icmp_eq (tgt := 1668) dL_law_1426 (by decide) (fun c1426_16 => ?_) (fun c1426_16 => ?_)
        · exfalso
          omega
        · refine a_iconst dL_law_1429 ⟨by decide, by decide⟩ ?_
          exact a_zret dL_law_1430 rfl (by first | exact Or.inl rfl | exact Or.inr rfl | omega) (by exfalso; omega)
      · exfalso
        omega
      · exfalso
        omega
    · have t1_1_1 : 0 ≤ a1 ∧ a1 ≤ 3 := t1_1_1
      have t8_2_1 : 0 ≤ a3 ∧ a3 ≤ 3 := t8_2_1
      have c39_3_1 : ¬ (h (90 + 2 * (Int.toNat a1)) 0) = (-1) := c39_3_1
      have c48_4_1 : ¬ (h (90 + 2 * (Int.toNat a3)) 0) = (-1) := c48_4_1
      have c65_5_1 : (h (90 + 2 * (Int.toNat a1)) 0) = (h (90 + 2 * (Int.toNat a3)) 0) := c65_5_1
      have t76_6_1 : (0 ≤ a2 ∧ a2 ≤ (h (90 + 2 * (Int.toNat a1)) 1)) ∧ (0 ≤ a5 ∧ a5 ≤ (h (90 + 2 * (Int.toNat a1)) 1) - a2) := t76_6_1
      have t88_7_1 : ¬ ((0 ≤ a4 ∧ a4 ≤ (h (90 + 2 * (Int.toNat a3)) 1)) ∧ (0 ≤ a5 ∧ a5 ≤ (h (90 + 2 * (Int.toNat a3)) 1) - a4)) := t88_7_1
      show Aj γ mL_law d mc ms Post 1397 [(0, vK 0), (1, vA 0), (2, vA 123), (3, vI ((i : Nat) : Int))] [vI (-1000000013)] (mk h τ)
      refine a_aload_n (j := 2) dL_law_1397 rfl rfl (Nat.le_of_ble_eq_true rfl) ?_
      refine a_aload_n (j := 0) dL_law_1398 rfl rfl (Nat.le_of_ble_eq_true rfl) ?_
      refine a_iload_n (j := 3) dL_law_1399 rfl rfl ?_
      refine a_iconst dL_law_1400 ⟨by decide, by decide⟩ ?_
      refine a_iadd (z := (((i : Nat) : Int) + 1)) dL_law_1401 (w_ok (by omega) (by omega)) ?_
      refine a_sld (i + 1) dL_law_1402 (by omega) (by omega) ?_
      rw [ha1]
      refine a_aload_n (j := 0) dL_law_1403 rfl rfl (Nat.le_of_ble_eq_true rfl) ?_
      refine a_iload_n (j := 3) dL_law_1404 rfl rfl ?_
      refine a_iconst dL_law_1405 ⟨by decide, by decide⟩ ?_
      refine a_iadd (z := (((i : Nat) : Int) + 2)) dL_law_1406 (w_ok (by omega) (by omega)) ?_
      refine a_sld (i + 2) dL_law_1407 (by omega) (by omega) ?_
      rw [ha2]
      refine a_aload_n (j := 0) dL_law_1408 rfl rfl (Nat.le_of_ble_eq_true rfl) ?_
      refine a_iload_n (j := 3) dL_law_1409 rfl rfl ?_
      refine a_iconst dL_law_1410 ⟨by decide, by decide⟩ ?_
      refine a_iadd (z := (((i : Nat) : Int) + 3)) dL_law_1411 (w_ok (by omega) (by omega)) ?_
      refine a_sld (i + 3) dL_law_1412 (by omega) (by omega) ?_
      rw [ha3]
      refine a_aload_n (j := 0) dL_law_1413 rfl rfl (Nat.le_of_ble_eq_true rfl) ?_
      refine a_iload_n (j := 3) dL_law_1414 rfl rfl ?_
      refine a_iconst dL_law_1415 ⟨by decide, by decide⟩ ?_
      refine a_iadd (z := (((i : Nat) : Int) + 4)) dL_law_1416 (w_ok (by omega) (by omega)) ?_
      refine a_sld (i + 4) dL_law_1417 (by omega) (by omega) ?_
      rw [ha4]
      refine a_aload_n (j := 0) dL_law_1418 rfl rfl (Nat.le_of_ble_eq_true rfl) ?_
      refine a_iload_n (j := 3) dL_law_1419 rfl rfl ?_
      refine a_iconst dL_law_1420 ⟨by decide, by decide⟩ ?_
      refine a_iadd (z := (((i : Nat) : Int) + 5)) dL_law_1421 (w_ok (by omega) (by omega)) ?_
      refine a_sld (i + 5) dL_law_1422 (by omega) (by omega) ?_
      rw [ha5]
      refine b_callV (d' := d - 1) (mc' := 0) (ms' := 0) (mc1 := mc) (ms1 := ms) (st := [vI (-1000000013)]) (b := 123) [vI a1, vI a2, vI a3, vI a4, vI a5] dL_law_1423 mwX9_copy lkL_171 (by decide) rfl rc_X9 rfl (Nat.le_of_ble_eq_true rfl) (by omega) (by omega) (by omega) (c_X9_copy (v1 := (h 146 (Int.toNat a1))) (v2 := (h 146 (Int.toNat a3))) (v3 := (h 145 (Int.toNat a1))) (v4 := (h 145 (Int.toNat a3))) (f5 := (h 147)) (f6 := (h 152)) (by omega)  rfl rfl rfl rfl rfl rfl (show Im a1 4 (0 ≤ (h 146 (Int.toNat a1)) ∧ (h 146 (Int.toNat a1)) ≤ 24) from fun _ _ => (by omega)) (show Im a3 4 (0 ≤ (h 146 (Int.toNat a3)) ∧ (h 146 (Int.toNat a3)) ≤ 24) from fun _ _ => (by omega)) (fun t1_1_17 t8_2_17 c23_4_17 => ?_) (fun t1_1_17 t8_2_17 c23_4_17 c32_6_17 c51_9_17 c58_10_17 => ?_) (fun t1_1_17 t8_2_17 c23_4_17 c32_6_17 c51_9_17 c58_10_17 c63_11_17 => ?_) (fun t1_1_17 t8_2_17 c23_4_17 c32_6_17 c51_9_17 c58_10_17 c63_11_17 c68_12_17 => ?_) (fun t1_1_17 t8_2_17 c23_4_17 c32_6_17 c51_9_17 c58_10_17 c63_11_17 c68_12_17 c81_14_17 => ?_) (fun t1_1_17 t8_2_17 c23_4_17 c32_6_17 c51_9_17 c58_10_17 c63_11_17 c68_12_17 c81_14_17 c95_16_17 => ?_) (fun t1_1_17 t8_2_17 c23_4_17 c32_6_17 c51_9_17 c58_10_17 c63_11_17 c68_12_17 c81_14_17 c95_16_17 => ?_) (fun t1_1_17 t8_2_17 c23_4_17 c32_6_17 c51_9_17 => ?_) (fun t1_1_17 t8_2_17 c23_4_17 c32_6_17 => ?_) (fun t1_1_17 t8_2_17 => ?_) (fun t1_1_17 => ?_))
      · have t1_1_17 : 0 ≤ a1 ∧ a1 ≤ 3 := t1_1_17
        have t8_2_17 : 0 ≤ a3 ∧ a3 ≤ 3 := t8_2_17
        have c23_4_17 : (h 145 (Int.toNat a1)) < 0 := c23_4_17
        show Aj γ mL_law d mc ms Post 1426 [(0, vK 0), (1, vA 0), (2, vA 123), (3, vI ((i : Nat) : Int))] [vI (-1000000011), vI (-1000000013)] (mk h τ)
        refine a_icmp_eq (tgt := 1668) dL_law_1426 (by decide) (fun c => absurd c (by decide)) (fun _ => ?_)
        refine a_iconst dL_law_1429 ⟨by decide, by decide⟩ ?_
        exact a_zret dL_law_1430 rfl (by first | exact Or.inl rfl | exact Or.inr rfl | omega) (by exfalso; omega)
      · have t1_1_17 : 0 ≤ a1 ∧ a1 ≤ 3 := t1_1_17
        have t8_2_17 : 0 ≤ a3 ∧ a3 ≤ 3 := t8_2_17
        have c23_4_17 : ¬ (h 145 (Int.toNat a1)) < 0 := c23_4_17
        have c32_6_17 : 0 ≤ (h 145 (Int.toNat a3)) := c32_6_17
        have c51_9_17 : (h 145 (Int.toNat a1)) = (h 145 (Int.toNat a3)) := c51_9_17
        have c58_10_17 : a2 < 0 := c58_10_17
        show Aj γ mL_law d mc ms Post 1426 [(0, vK 0), (1, vA 0), (2, vA 123), (3, vI ((i : Nat) : Int))] [vI (-1000000013), vI (-1000000013)] (mk h τ)
        refine a_icmp_eq (tgt := 1668) dL_law_1426 (by decide) (fun _ => ?_) (fun c => absurd c (by decide))
        exact kE h N J (IV_up (by omega) hI)
      · have t1_1_17 : 0 ≤ a1 ∧ a1 ≤ 3 := t1_1_17
        have t8_2_17 : 0 ≤ a3 ∧ a3 ≤ 3 := t8_2_17
        have c23_4_17 : ¬ (h 145 (Int.toNat a1)) < 0 := c23_4_17
        have c32_6_17 : 0 ≤ (h 145 (Int.toNat a3)) := c32_6_17
        have c51_9_17 : (h 145 (Int.toNat a1)) = (h 145 (Int.toNat a3)) := c51_9_17
        have c58_10_17 : ¬ a2 < 0 := c58_10_17
        have c63_11_17 : a4 < 0 := c63_11_17
        show Aj γ mL_law d mc ms Post 1426 [(0, vK 0), (1, vA 0), (2, vA 123), (3, vI ((i : Nat) : Int))] [vI (-1000000013), vI (-1000000013)] (mk h τ)
        refine a_icmp_eq (tgt := 1668) dL_law_1426 (by decide) (fun _ => ?_) (fun c => absurd c (by decide))
        exact kE h N J (IV_up (by omega) hI)
      · have t1_1_17 : 0 ≤ a1 ∧ a1 ≤ 3 := t1_1_17
        have t8_2_17 : 0 ≤ a3 ∧ a3 ≤ 3 := t8_2_17
        have c23_4_17 : ¬ (h 145 (Int.toNat a1)) < 0 := c23_4_17
        have c32_6_17 : 0 ≤ (h 145 (Int.toNat a3)) := c32_6_17
        have c51_9_17 : (h 145 (Int.toNat a1)) = (h 145 (Int.toNat a3)) := c51_9_17
        have c58_10_17 : ¬ a2 < 0 := c58_10_17
        have c63_11_17 : ¬ a4 < 0 := c63_11_17
        have c68_12_17 : a5 < 0 := c68_12_17
        show Aj γ mL_law d mc ms Post 1426 [(0, vK 0), (1, vA 0), (2, vA 123), (3, vI ((i : Nat) : Int))] [vI (-1000000013), vI (-1000000013)] (mk h τ)
        refine a_icmp_eq (tgt := 1668) dL_law_1426 (by decide) (fun _ => ?_) (fun c => absurd c (by decide))
        exact kE h N J (IV_up (by omega) hI)
      · have t1_1_17 : 0 ≤ a1 ∧ a1 ≤ 3 := t1_1_17
        have t8_2_17 : 0 ≤ a3 ∧ a3 ≤ 3 := t8_2_17
        have c23_4_17 : ¬ (h 145 (Int.toNat a1)) < 0 := c23_4_17
        have c32_6_17 : 0 ≤ (h 145 (Int.toNat a3)) := c32_6_17
        have c51_9_17 : (h 145 (Int.toNat a1)) = (h 145 (Int.toNat a3)) := c51_9_17
        have c58_10_17 : ¬ a2 < 0 := c58_10_17
        have c63_11_17 : ¬ a4 < 0 := c63_11_17
        have c68_12_17 : ¬ a5 < 0 := c68_12_17
        have c81_14_17 : ((h 146 (Int.toNat a1)) - a5) < a2 := c81_14_17
        show Aj γ mL_law d mc ms Post 1426 [(0, vK 0), (1, vA 0), (2, vA 123), (3, vI ((i : Nat) : Int))] [vI (-1000000013), vI (-1000000013)] (mk h τ)
        refine a_icmp_eq (tgt := 1668) dL_law_1426 (by decide) (fun _ => ?_) (fun c => absurd c (by decide))
        exact kE h N J (IV_up (by omega) hI)
      · have t1_1_17 : 0 ≤ a1 ∧ a1 ≤ 3 := t1_1_17
        have t8_2_17 : 0 ≤ a3 ∧ a3 ≤ 3 := t8_2_17
        have c23_4_17 : ¬ (h 145 (Int.toNat a1)) < 0 := c23_4_17
        have c32_6_17 : 0 ≤ (h 145 (Int.toNat a3)) := c32_6_17
        have c51_9_17 : (h 145 (Int.toNat a1)) = (h 145 (Int.toNat a3)) := c51_9_17
        have c58_10_17 : ¬ a2 < 0 := c58_10_17
        have c63_11_17 : ¬ a4 < 0 := c63_11_17
        have c68_12_17 : ¬ a5 < 0 := c68_12_17
        have c81_14_17 : ¬ ((h 146 (Int.toNat a1)) - a5) < a2 := c81_14_17
        have c95_16_17 : a4 ≤ ((h 146 (Int.toNat a3)) - a5) := c95_16_17
        show Aj γ mL_law d mc ms Post 1426 [(0, vK 0), (1, vA 0), (2, vA 123), (3, vI ((i : Nat) : Int))] [vI a5, vI (-1000000013)] (mk (upR (upR h 152 (cpy (h 147) (h 152) (Int.toNat ((24 * a1) + a2)) 0 (Int.toNat a5))) 147 (cpy (cpy (h 147) (h 152) (Int.toNat ((24 * a1) + a2)) 0 (Int.toNat a5)) (h 147) 0 (Int.toNat ((24 * a3) + a4)) (Int.toNat a5))) τ)
        refine a_icmp_eq (tgt := 1668) dL_law_1426 (by decide) (fun c1426_19 => ?_) (fun c1426_19 => ?_)
        · exfalso
          omega
        · refine a_iconst dL_law_1429 ⟨by decide, by decide⟩ ?_
          exact a_zret dL_law_1430 rfl (by first | exact Or.inl rfl | exact Or.inr rfl | omega) (by exfalso; omega)
      · have t1_1_17 : 0 ≤ a1 ∧ a1 ≤ 3 := t1_1_17
        have t8_2_17 : 0 ≤ a3 ∧ a3 ≤ 3 := t8_2_17
        have c23_4_17 : ¬ (h 145 (Int.toNat a1)) < 0 := c23_4_17
        have c32_6_17 : 0 ≤ (h 145 (Int.toNat a3)) := c32_6_17
        have c51_9_17 : (h 145 (Int.toNat a1)) = (h 145 (Int.toNat a3)) := c51_9_17
        have c58_10_17 : ¬ a2 < 0 := c58_10_17
        have c63_11_17 : ¬ a4 < 0 := c63_11_17
        have c68_12_17 : ¬ a5 < 0 := c68_12_17
        have c81_14_17 : ¬ ((h 146 (Int.toNat a1)) - a5) < a2 := c81_14_17
        have c95_16_17 : ¬ a4 ≤ ((h 146 (Int.toNat a3)) - a5) := c95_16_17
        show Aj γ mL_law d mc ms Post 1426 [(0, vK 0), (1, vA 0), (2, vA 123), (3, vI ((i : Nat) : Int))] [vI (-1000000013), vI (-1000000013)] (mk h τ)
        refine a_icmp_eq (tgt := 1668) dL_law_1426 (by decide) (fun _ => ?_) (fun c => absurd c (by decide))
        exact kE h N J (IV_up (by omega) hI)
      · have t1_1_17 : 0 ≤ a1 ∧ a1 ≤ 3 := t1_1_17
        have t8_2_17 : 0 ≤ a3 ∧ a3 ≤ 3 := t8_2_17
        have c23_4_17 : ¬ (h 145 (Int.toNat a1)) < 0 := c23_4_17
        have c32_6_17 : 0 ≤ (h 145 (Int.toNat a3)) := c32_6_17
        have c51_9_17 : ¬ (h 145 (Int.toNat a1)) = (h 145 (Int.toNat a3)) := c51_9_17
        show Aj γ mL_law d mc ms Post 1426 [(0, vK 0), (1, vA 0), (2, vA 123), (3, vI ((i : Nat) : Int))] [vI (-1000000012), vI (-1000000013)] (mk h τ)
        refine a_icmp_eq (tgt := 1668) dL_law_1426 (by decide) (fun c => absurd c (by decide)) (fun _ => ?_)
        refine a_iconst dL_law_1429 ⟨by decide, by decide⟩ ?_
        exact a_zret dL_law_1430 rfl (by first | exact Or.inl rfl | exact Or.inr rfl | omega) (by exfalso; omega)
      · have t1_1_17 : 0 ≤ a1 ∧ a1 ≤ 3 := t1_1_17
        have t8_2_17 : 0 ≤ a3 ∧ a3 ≤ 3 := t8_2_17
        have c23_4_17 : ¬ (h 145 (Int.toNat a1)) < 0 := c23_4_17
        have c32_6_17 : ¬ 0 ≤ (h 145 (Int.toNat a3)) := c32_6_17
        show Aj γ mL_law d mc ms Post 1426 [(0, vK 0), (1, vA 0), (2, vA 123), (3, vI ((i : Nat) : Int))] [vI (-1000000011), vI (-1000000013)] (mk h τ)
        refine a_icmp_eq (tgt := 1668) dL_law_1426 (by decide) (fun c => absurd c (by decide)) (fun _ => ?_)
        refine a_iconst dL_law_1429 ⟨by decide, by decide⟩ ?_
        exact a_zret dL_law_1430 rfl (by first | exact Or.inl rfl | exact Or.inr rfl | omega) (by exfalso; omega)
      · exfalso
        omega
      · exfalso
        omega
    · have t1_1_1 : 0 ≤ a1 ∧ a1 ≤ 3 := t1_1_1
      have t8_2_1 : 0 ≤ a3 ∧ a3 ≤ 3 := t8_2_1
      have c39_3_1 : ¬ (h (90 + 2 * (Int.toNat a1)) 0) = (-1) := c39_3_1
      have c48_4_1 : ¬ (h (90 + 2 * (Int.toNat a3)) 0) = (-1) := c48_4_1
      have c65_5_1 : (h (90 + 2 * (Int.toNat a1)) 0) = (h (90 + 2 * (Int.toNat a3)) 0) := c65_5_1
      have t76_6_1 : ¬ ((0 ≤ a2 ∧ a2 ≤ (h (90 + 2 * (Int.toNat a1)) 1)) ∧ (0 ≤ a5 ∧ a5 ≤ (h (90 + 2 * (Int.toNat a1)) 1) - a2)) := t76_6_1
      show Aj γ mL_law d mc ms Post 1397 [(0, vK 0), (1, vA 0), (2, vA 123), (3, vI ((i : Nat) : Int))] [vI (-1000000013)] (mk h τ)
      refine a_aload_n (j := 2) dL_law_1397 rfl rfl (Nat.le_of_ble_eq_true rfl) ?_
      refine a_aload_n (j := 0) dL_law_1398 rfl rfl (Nat.le_of_ble_eq_true rfl) ?_
      refine a_iload_n (j := 3) dL_law_1399 rfl rfl ?_
      refine a_iconst dL_law_1400 ⟨by decide, by decide⟩ ?_
      refine a_iadd (z := (((i : Nat) : Int) + 1)) dL_law_1401 (w_ok (by omega) (by omega)) ?_
      refine a_sld (i + 1) dL_law_1402 (by omega) (by omega) ?_
      rw [ha1]
      refine a_aload_n (j := 0) dL_law_1403 rfl rfl (Nat.le_of_ble_eq_true rfl) ?_
      refine a_iload_n (j := 3) dL_law_1404 rfl rfl ?_
      refine a_iconst dL_law_1405 ⟨by decide, by decide⟩ ?_
      refine a_iadd (z := (((i : Nat) : Int) + 2)) dL_law_1406 (w_ok (by omega) (by omega)) ?_
      refine a_sld (i + 2) dL_law_1407 (by omega) (by omega) ?_
      rw [ha2]
      refine a_aload_n (j := 0) dL_law_1408 rfl rfl (Nat.le_of_ble_eq_true rfl) ?_
      refine a_iload_n (j := 3) dL_law_1409 rfl rfl ?_
      refine a_iconst dL_law_1410 ⟨by decide, by decide⟩ ?_
      refine a_iadd (z := (((i : Nat) : Int) + 3)) dL_law_1411 (w_ok (by omega) (by omega)) ?_
      refine a_sld (i + 3) dL_law_1412 (by omega) (by omega) ?_
      rw [ha3]
      refine a_aload_n (j := 0) dL_law_1413 rfl rfl (Nat.le_of_ble_eq_true rfl) ?_
      refine a_iload_n (j := 3) dL_law_1414 rfl rfl ?_
      refine a_iconst dL_law_1415 ⟨by decide, by decide⟩ ?_
      refine a_iadd (z := (((i : Nat) : Int) + 4)) dL_law_1416 (w_ok (by omega) (by omega)) ?_
      refine a_sld (i + 4) dL_law_1417 (by omega) (by omega) ?_
      rw [ha4]
      refine a_aload_n (j := 0) dL_law_1418 rfl rfl (Nat.le_of_ble_eq_true rfl) ?_
      refine a_iload_n (j := 3) dL_law_1419 rfl rfl ?_
      refine a_iconst dL_law_1420 ⟨by decide, by decide⟩ ?_
      refine a_iadd (z := (((i : Nat) : Int) + 5)) dL_law_1421 (w_ok (by omega) (by omega)) ?_
      refine a_sld (i + 5) dL_law_1422 (by omega) (by omega) ?_
      rw [ha5]
      refine b_callV (d' := d - 1) (mc' := 0) (ms' := 0) (mc1 := mc) (ms1 := ms) (st := [vI (-1000000013)]) (b := 123) [vI a1, vI a2, vI a3, vI a4, vI a5] dL_law_1423 mwX9_copy lkL_171 (by decide) rfl rc_X9 rfl (Nat.le_of_ble_eq_true rfl) (by omega) (by omega) (by omega) (c_X9_copy (v1 := (h 146 (Int.toNat a1))) (v2 := (h 146 (Int.toNat a3))) (v3 := (h 145 (Int.toNat a1))) (v4 := (h 145 (Int.toNat a3))) (f5 := (h 147)) (f6 := (h 152)) (by omega)  rfl rfl rfl rfl rfl rfl (show Im a1 4 (0 ≤ (h 146 (Int.toNat a1)) ∧ (h 146 (Int.toNat a1)) ≤ 24) from fun _ _ => (by omega)) (show Im a3 4 (0 ≤ (h 146 (Int.toNat a3)) ∧ (h 146 (Int.toNat a3)) ≤ 24) from fun _ _ => (by omega)) (fun t1_1_20 t8_2_20 c23_4_20 => ?_) (fun t1_1_20 t8_2_20 c23_4_20 c32_6_20 c51_9_20 c58_10_20 => ?_) (fun t1_1_20 t8_2_20 c23_4_20 c32_6_20 c51_9_20 c58_10_20 c63_11_20 => ?_) (fun t1_1_20 t8_2_20 c23_4_20 c32_6_20 c51_9_20 c58_10_20 c63_11_20 c68_12_20 => ?_) (fun t1_1_20 t8_2_20 c23_4_20 c32_6_20 c51_9_20 c58_10_20 c63_11_20 c68_12_20 c81_14_20 => ?_) (fun t1_1_20 t8_2_20 c23_4_20 c32_6_20 c51_9_20 c58_10_20 c63_11_20 c68_12_20 c81_14_20 c95_16_20 => ?_) (fun t1_1_20 t8_2_20 c23_4_20 c32_6_20 c51_9_20 c58_10_20 c63_11_20 c68_12_20 c81_14_20 c95_16_20 => ?_) (fun t1_1_20 t8_2_20 c23_4_20 c32_6_20 c51_9_20 => ?_) (fun t1_1_20 t8_2_20 c23_4_20 c32_6_20 => ?_) (fun t1_1_20 t8_2_20 => ?_) (fun t1_1_20 => ?_))
      · have t1_1_20 : 0 ≤ a1 ∧ a1 ≤ 3 := t1_1_20
        have t8_2_20 : 0 ≤ a3 ∧ a3 ≤ 3 := t8_2_20
        have c23_4_20 : (h 145 (Int.toNat a1)) < 0 := c23_4_20
        show Aj γ mL_law d mc ms Post 1426 [(0, vK 0), (1, vA 0), (2, vA 123), (3, vI ((i : Nat) : Int))] [vI (-1000000011), vI (-1000000013)] (mk h τ)
        refine a_icmp_eq (tgt := 1668) dL_law_1426 (by decide) (fun c => absurd c (by decide)) (fun _ => ?_)
        refine a_iconst dL_law_1429 ⟨by decide, by decide⟩ ?_
        exact a_zret dL_law_1430 rfl (by first | exact Or.inl rfl | exact Or.inr rfl | omega) (by exfalso; omega)
      · have t1_1_20 : 0 ≤ a1 ∧ a1 ≤ 3 := t1_1_20
        have t8_2_20 : 0 ≤ a3 ∧ a3 ≤ 3 := t8_2_20
        have c23_4_20 : ¬ (h 145 (Int.toNat a1)) < 0 := c23_4_20
        have c32_6_20 : 0 ≤ (h 145 (Int.toNat a3)) := c32_6_20
        have c51_9_20 : (h 145 (Int.toNat a1)) = (h 145 (Int.toNat a3)) := c51_9_20
        have c58_10_20 : a2 < 0 := c58_10_20
        show Aj γ mL_law d mc ms Post 1426 [(0, vK 0), (1, vA 0), (2, vA 123), (3, vI ((i : Nat) : Int))] [vI (-1000000013), vI (-1000000013)] (mk h τ)
        refine a_icmp_eq (tgt := 1668) dL_law_1426 (by decide) (fun _ => ?_) (fun c => absurd c (by decide))
        exact kE h N J (IV_up (by omega) hI)
      · have t1_1_20 : 0 ≤ a1 ∧ a1 ≤ 3 := t1_1_20
        have t8_2_20 : 0 ≤ a3 ∧ a3 ≤ 3 := t8_2_20
        have c23_4_20 : ¬ (h 145 (Int.toNat a1)) < 0 := c23_4_20
        have c32_6_20 : 0 ≤ (h 145 (Int.toNat a3)) := c32_6_20
        have c51_9_20 : (h 145 (Int.toNat a1)) = (h 145 (Int.toNat a3)) := c51_9_20
        have c58_10_20 : ¬ a2 < 0 := c58_10_20
        have c63_11_20 : a4 < 0 := c63_11_20
        show Aj γ mL_law d mc ms Post 1426 [(0, vK 0), (1, vA 0), (2, vA 123), (3, vI ((i : Nat) : Int))] [vI (-1000000013), vI (-1000000013)] (mk h τ)
        refine a_icmp_eq (tgt := 1668) dL_law_1426 (by decide) (fun _ => ?_) (fun c => absurd c (by decide))
        exact kE h N J (IV_up (by omega) hI)
      · have t1_1_20 : 0 ≤ a1 ∧ a1 ≤ 3 := t1_1_20
        have t8_2_20 : 0 ≤ a3 ∧ a3 ≤ 3 := t8_2_20
        have c23_4_20 : ¬ (h 145 (Int.toNat a1)) < 0 := c23_4_20
        have c32_6_20 : 0 ≤ (h 145 (Int.toNat a3)) := c32_6_20
        have c51_9_20 : (h 145 (Int.toNat a1)) = (h 145 (Int.toNat a3)) := c51_9_20
        have c58_10_20 : ¬ a2 < 0 := c58_10_20
        have c63_11_20 : ¬ a4 < 0 := c63_11_20
        have c68_12_20 : a5 < 0 := c68_12_20
        show Aj γ mL_law d mc ms Post 1426 [(0, vK 0), (1, vA 0), (2, vA 123), (3, vI ((i : Nat) : Int))] [vI (-1000000013), vI (-1000000013)] (mk h τ)
        refine a_icmp_eq (tgt := 1668) dL_law_1426 (by decide) (fun _ => ?_) (fun c => absurd c (by decide))
        exact kE h N J (IV_up (by omega) hI)
      · have t1_1_20 : 0 ≤ a1 ∧ a1 ≤ 3 := t1_1_20
        have t8_2_20 : 0 ≤ a3 ∧ a3 ≤ 3 := t8_2_20
        have c23_4_20 : ¬ (h 145 (Int.toNat a1)) < 0 := c23_4_20
        have c32_6_20 : 0 ≤ (h 145 (Int.toNat a3)) := c32_6_20
        have c51_9_20 : (h 145 (Int.toNat a1)) = (h 145 (Int.toNat a3)) := c51_9_20
        have c58_10_20 : ¬ a2 < 0 := c58_10_20
        have c63_11_20 : ¬ a4 < 0 := c63_11_20
        have c68_12_20 : ¬ a5 < 0 := c68_12_20
        have c81_14_20 : ((h 146 (Int.toNat a1)) - a5) < a2 := c81_14_20
        show Aj γ mL_law d mc ms Post 1426 [(0, vK 0), (1, vA 0), (2, vA 123), (3, vI ((i : Nat) : Int))] [vI (-1000000013), vI (-1000000013)] (mk h τ)
        refine a_icmp_eq (tgt := 1668) dL_law_1426 (by decide) (fun _ => ?_) (fun c => absurd c (by decide))
        exact kE h N J (IV_up (by omega) hI)
      · have t1_1_20 : 0 ≤ a1 ∧ a1 ≤ 3 := t1_1_20
        have t8_2_20 : 0 ≤ a3 ∧ a3 ≤ 3 := t8_2_20
        have c23_4_20 : ¬ (h 145 (Int.toNat a1)) < 0 := c23_4_20
        have c32_6_20 : 0 ≤ (h 145 (Int.toNat a3)) := c32_6_20
        have c51_9_20 : (h 145 (Int.toNat a1)) = (h 145 (Int.toNat a3)) := c51_9_20
        have c58_10_20 : ¬ a2 < 0 := c58_10_20
        have c63_11_20 : ¬ a4 < 0 := c63_11_20
        have c68_12_20 : ¬ a5 < 0 := c68_12_20
        have c81_14_20 : ¬ ((h 146 (Int.toNat a1)) - a5) < a2 := c81_14_20
        have c95_16_20 : a4 ≤ ((h 146 (Int.toNat a3)) - a5) := c95_16_20
        show Aj γ mL_law d mc ms Post 1426 [(0, vK 0), (1, vA 0), (2, vA 123), (3, vI ((i : Nat) : Int))] [vI a5, vI (-1000000013)] (mk (upR (upR h 152 (cpy (h 147) (h 152) (Int.toNat ((24 * a1) + a2)) 0 (Int.toNat a5))) 147 (cpy (cpy (h 147) (h 152) (Int.toNat ((24 * a1) + a2)) 0 (Int.toNat a5)) (h 147) 0 (Int.toNat ((24 * a3) + a4)) (Int.toNat a5))) τ)
        refine a_icmp_eq (tgt := 1668) dL_law_1426 (by decide) (fun c1426_22 => ?_) (fun c1426_22 => ?_)
        · exfalso
          omega
        · refine a_iconst dL_law_1429 ⟨by decide, by decide⟩ ?_
          exact a_zret dL_law_1430 rfl (by first | exact Or.inl rfl | exact Or.inr rfl | omega) (by exfalso; omega)
      · have t1_1_20 : 0 ≤ a1 ∧ a1 ≤ 3 := t1_1_20
        have t8_2_20 : 0 ≤ a3 ∧ a3 ≤ 3 := t8_2_20
        have c23_4_20 : ¬ (h 145 (Int.toNat a1)) < 0 := c23_4_20
        have c32_6_20 : 0 ≤ (h 145 (Int.toNat a3)) := c32_6_20
        have c51_9_20 : (h 145 (Int.toNat a1)) = (h 145 (Int.toNat a3)) := c51_9_20
        have c58_10_20 : ¬ a2 < 0 := c58_10_20
        have c63_11_20 : ¬ a4 < 0 := c63_11_20
        have c68_12_20 : ¬ a5 < 0 := c68_12_20
        have c81_14_20 : ¬ ((h 146 (Int.toNat a1)) - a5) < a2 := c81_14_20
        have c95_16_20 : ¬ a4 ≤ ((h 146 (Int.toNat a3)) - a5) := c95_16_20
        show Aj γ mL_law d mc ms Post 1426 [(0, vK 0), (1, vA 0), (2, vA 123), (3, vI ((i : Nat) : Int))] [vI (-1000000013), vI (-1000000013)] (mk h τ)
        refine a_icmp_eq (tgt := 1668) dL_law_1426 (by decide) (fun _ => ?_) (fun c => absurd c (by decide))
        exact kE h N J (IV_up (by omega) hI)
      · have t1_1_20 : 0 ≤ a1 ∧ a1 ≤ 3 := t1_1_20
        have t8_2_20 : 0 ≤ a3 ∧ a3 ≤ 3 := t8_2_20
        have c23_4_20 : ¬ (h 145 (Int.toNat a1)) < 0 := c23_4_20
        have c32_6_20 : 0 ≤ (h 145 (Int.toNat a3)) := c32_6_20
        have c51_9_20 : ¬ (h 145 (Int.toNat a1)) = (h 145 (Int.toNat a3)) := c51_9_20
        show Aj γ mL_law d mc ms Post 1426 [(0, vK 0), (1, vA 0), (2, vA 123), (3, vI ((i : Nat) : Int))] [vI (-1000000012), vI (-1000000013)] (mk h τ)
        refine a_icmp_eq (tgt := 1668) dL_law_1426 (by decide) (fun c => absurd c (by decide)) (fun _ => ?_)
        refine a_iconst dL_law_1429 ⟨by decide, by decide⟩ ?_
        exact a_zret dL_law_1430 rfl (by first | exact Or.inl rfl | exact Or.inr rfl | omega) (by exfalso; omega)
      · have t1_1_20 : 0 ≤ a1 ∧ a1 ≤ 3 := t1_1_20
        have t8_2_20 : 0 ≤ a3 ∧ a3 ≤ 3 := t8_2_20
        have c23_4_20 : ¬ (h 145 (Int.toNat a1)) < 0 := c23_4_20
        have c32_6_20 : ¬ 0 ≤ (h 145 (Int.toNat a3)) := c32_6_20
        show Aj γ mL_law d mc ms Post 1426 [(0, vK 0), (1, vA 0), (2, vA 123), (3, vI ((i : Nat) : Int))] [vI (-1000000011), vI (-1000000013)] (mk h τ)
        refine a_icmp_eq (tgt := 1668) dL_law_1426 (by decide) (fun c => absurd c (by decide)) (fun _ => ?_)
        refine a_iconst dL_law_1429 ⟨by decide, by decide⟩ ?_
        exact a_zret dL_law_1430 rfl (by first | exact Or.inl rfl | exact Or.inr rfl | omega) (by exfalso; omega)
      · exfalso
        omega
      · exfalso
        omega
    · have t1_1_1 : 0 ≤ a1 ∧ a1 ≤ 3 := t1_1_1
      have t8_2_1 : 0 ≤ a3 ∧ a3 ≤ 3 := t8_2_1
      have c39_3_1 : ¬ (h (90 + 2 * (Int.toNat a1)) 0) = (-1) := c39_3_1
      have c48_4_1 : ¬ (h (90 + 2 * (Int.toNat a3)) 0) = (-1) := c48_4_1
      have c65_5_1 : ¬ (h (90 + 2 * (Int.toNat a1)) 0) = (h (90 + 2 * (Int.toNat a3)) 0) := c65_5_1
      show Aj γ mL_law d mc ms Post 1397 [(0, vK 0), (1, vA 0), (2, vA 123), (3, vI ((i : Nat) : Int))] [vI (-1000000012)] (mk h τ)
      refine a_aload_n (j := 2) dL_law_1397 rfl rfl (Nat.le_of_ble_eq_true rfl) ?_
      refine a_aload_n (j := 0) dL_law_1398 rfl rfl (Nat.le_of_ble_eq_true rfl) ?_
      refine a_iload_n (j := 3) dL_law_1399 rfl rfl ?_
      refine a_iconst dL_law_1400 ⟨by decide, by decide⟩ ?_
      refine a_iadd (z := (((i : Nat) : Int) + 1)) dL_law_1401 (w_ok (by omega) (by omega)) ?_
      refine a_sld (i + 1) dL_law_1402 (by omega) (by omega) ?_
      rw [ha1]
      refine a_aload_n (j := 0) dL_law_1403 rfl rfl (Nat.le_of_ble_eq_true rfl) ?_
      refine a_iload_n (j := 3) dL_law_1404 rfl rfl ?_
      refine a_iconst dL_law_1405 ⟨by decide, by decide⟩ ?_
      refine a_iadd (z := (((i : Nat) : Int) + 2)) dL_law_1406 (w_ok (by omega) (by omega)) ?_
      refine a_sld (i + 2) dL_law_1407 (by omega) (by omega) ?_
      rw [ha2]
      refine a_aload_n (j := 0) dL_law_1408 rfl rfl (Nat.le_of_ble_eq_true rfl) ?_
      refine a_iload_n (j := 3) dL_law_1409 rfl rfl ?_
      refine a_iconst dL_law_1410 ⟨by decide, by decide⟩ ?_
      refine a_iadd (z := (((i : Nat) : Int) + 3)) dL_law_1411 (w_ok (by omega) (by omega)) ?_
      refine a_sld (i + 3) dL_law_1412 (by omega) (by omega) ?_
      rw [ha3]
      refine a_aload_n (j := 0) dL_law_1413 rfl rfl (Nat.le_of_ble_eq_true rfl) ?_
      refine a_iload_n (j := 3) dL_law_1414 rfl rfl ?_
      refine a_iconst dL_law_1415 ⟨by decide, by decide⟩ ?_
      refine a_iadd (z := (((i : Nat) : Int) + 4)) dL_law_1416 (w_ok (by omega) (by omega)) ?_
      refine a_sld (i + 4) dL_law_1417 (by omega) (by omega) ?_
      rw [ha4]
      refine a_aload_n (j := 0) dL_law_1418 rfl rfl (Nat.le_of_ble_eq_true rfl) ?_
      refine a_iload_n (j := 3) dL_law_1419 rfl rfl ?_
      refine a_iconst dL_law_1420 ⟨by decide, by decide⟩ ?_
      refine a_iadd (z := (((i : Nat) : Int) + 5)) dL_law_1421 (w_ok (by omega) (by omega)) ?_
      refine a_sld (i + 5) dL_law_1422 (by omega) (by omega) ?_
      rw [ha5]
      refine b_callV (d' := d - 1) (mc' := 0) (ms' := 0) (mc1 := mc) (ms1 := ms) (st := [vI (-1000000012)]) (b := 123) [vI a1, vI a2, vI a3, vI a4, vI a5] dL_law_1423 mwX9_copy lkL_171 (by decide) rfl rc_X9 rfl (Nat.le_of_ble_eq_true rfl) (by omega) (by omega) (by omega) (c_X9_copy (v1 := (h 146 (Int.toNat a1))) (v2 := (h 146 (Int.toNat a3))) (v3 := (h 145 (Int.toNat a1))) (v4 := (h 145 (Int.toNat a3))) (f5 := (h 147)) (f6 := (h 152)) (by omega)  rfl rfl rfl rfl rfl rfl (show Im a1 4 (0 ≤ (h 146 (Int.toNat a1)) ∧ (h 146 (Int.toNat a1)) ≤ 24) from fun _ _ => (by omega)) (show Im a3 4 (0 ≤ (h 146 (Int.toNat a3)) ∧ (h 146 (Int.toNat a3)) ≤ 24) from fun _ _ => (by omega)) (fun t1_1_23 t8_2_23 c23_4_23 => ?_) (fun t1_1_23 t8_2_23 c23_4_23 c32_6_23 c51_9_23 c58_10_23 => ?_) (fun t1_1_23 t8_2_23 c23_4_23 c32_6_23 c51_9_23 c58_10_23 c63_11_23 => ?_) (fun t1_1_23 t8_2_23 c23_4_23 c32_6_23 c51_9_23 c58_10_23 c63_11_23 c68_12_23 => ?_) (fun t1_1_23 t8_2_23 c23_4_23 c32_6_23 c51_9_23 c58_10_23 c63_11_23 c68_12_23 c81_14_23 => ?_) (fun t1_1_23 t8_2_23 c23_4_23 c32_6_23 c51_9_23 c58_10_23 c63_11_23 c68_12_23 c81_14_23 c95_16_23 => ?_) (fun t1_1_23 t8_2_23 c23_4_23 c32_6_23 c51_9_23 c58_10_23 c63_11_23 c68_12_23 c81_14_23 c95_16_23 => ?_) (fun t1_1_23 t8_2_23 c23_4_23 c32_6_23 c51_9_23 => ?_) (fun t1_1_23 t8_2_23 c23_4_23 c32_6_23 => ?_) (fun t1_1_23 t8_2_23 => ?_) (fun t1_1_23 => ?_))
      · have t1_1_23 : 0 ≤ a1 ∧ a1 ≤ 3 := t1_1_23
        have t8_2_23 : 0 ≤ a3 ∧ a3 ≤ 3 := t8_2_23
        have c23_4_23 : (h 145 (Int.toNat a1)) < 0 := c23_4_23
        show Aj γ mL_law d mc ms Post 1426 [(0, vK 0), (1, vA 0), (2, vA 123), (3, vI ((i : Nat) : Int))] [vI (-1000000011), vI (-1000000012)] (mk h τ)
        refine a_icmp_eq (tgt := 1668) dL_law_1426 (by decide) (fun c => absurd c (by decide)) (fun _ => ?_)
        refine a_iconst dL_law_1429 ⟨by decide, by decide⟩ ?_
        exact a_zret dL_law_1430 rfl (by first | exact Or.inl rfl | exact Or.inr rfl | omega) (by exfalso; omega)
      · have t1_1_23 : 0 ≤ a1 ∧ a1 ≤ 3 := t1_1_23
        have t8_2_23 : 0 ≤ a3 ∧ a3 ≤ 3 := t8_2_23
        have c23_4_23 : ¬ (h 145 (Int.toNat a1)) < 0 := c23_4_23
        have c32_6_23 : 0 ≤ (h 145 (Int.toNat a3)) := c32_6_23
        have c51_9_23 : (h 145 (Int.toNat a1)) = (h 145 (Int.toNat a3)) := c51_9_23
        have c58_10_23 : a2 < 0 := c58_10_23
        show Aj γ mL_law d mc ms Post 1426 [(0, vK 0), (1, vA 0), (2, vA 123), (3, vI ((i : Nat) : Int))] [vI (-1000000013), vI (-1000000012)] (mk h τ)
        refine a_icmp_eq (tgt := 1668) dL_law_1426 (by decide) (fun c => absurd c (by decide)) (fun _ => ?_)
        refine a_iconst dL_law_1429 ⟨by decide, by decide⟩ ?_
        exact a_zret dL_law_1430 rfl (by first | exact Or.inl rfl | exact Or.inr rfl | omega) (by exfalso; omega)
      · have t1_1_23 : 0 ≤ a1 ∧ a1 ≤ 3 := t1_1_23
        have t8_2_23 : 0 ≤ a3 ∧ a3 ≤ 3 := t8_2_23
        have c23_4_23 : ¬ (h 145 (Int.toNat a1)) < 0 := c23_4_23
        have c32_6_23 : 0 ≤ (h 145 (Int.toNat a3)) := c32_6_23
        have c51_9_23 : (h 145 (Int.toNat a1)) = (h 145 (Int.toNat a3)) := c51_9_23
        have c58_10_23 : ¬ a2 < 0 := c58_10_23
        have c63_11_23 : a4 < 0 := c63_11_23
        show Aj γ mL_law d mc ms Post 1426 [(0, vK 0), (1, vA 0), (2, vA 123), (3, vI ((i : Nat) : Int))] [vI (-1000000013), vI (-1000000012)] (mk h τ)
        refine a_icmp_eq (tgt := 1668) dL_law_1426 (by decide) (fun c => absurd c (by decide)) (fun _ => ?_)
        refine a_iconst dL_law_1429 ⟨by decide, by decide⟩ ?_
        exact a_zret dL_law_1430 rfl (by first | exact Or.inl rfl | exact Or.inr rfl | omega) (by exfalso; omega)
      · have t1_1_23 : 0 ≤ a1 ∧ a1 ≤ 3 := t1_1_23
        have t8_2_23 : 0 ≤ a3 ∧ a3 ≤ 3 := t8_2_23
        have c23_4_23 : ¬ (h 145 (Int.toNat a1)) < 0 := c23_4_23
        have c32_6_23 : 0 ≤ (h 145 (Int.toNat a3)) := c32_6_23
        have c51_9_23 : (h 145 (Int.toNat a1)) = (h 145 (Int.toNat a3)) := c51_9_23
        have c58_10_23 : ¬ a2 < 0 := c58_10_23
        have c63_11_23 : ¬ a4 < 0 := c63_11_23
        have c68_12_23 : a5 < 0 := c68_12_23
        show Aj γ mL_law d mc ms Post 1426 [(0, vK 0), (1, vA 0), (2, vA 123), (3, vI ((i : Nat) : Int))] [vI (-1000000013), vI (-1000000012)] (mk h τ)
        refine a_icmp_eq (tgt := 1668) dL_law_1426 (by decide) (fun c => absurd c (by decide)) (fun _ => ?_)
        refine a_iconst dL_law_1429 ⟨by decide, by decide⟩ ?_
        exact a_zret dL_law_1430 rfl (by first | exact Or.inl rfl | exact Or.inr rfl | omega) (by exfalso; omega)
      · have t1_1_23 : 0 ≤ a1 ∧ a1 ≤ 3 := t1_1_23
        have t8_2_23 : 0 ≤ a3 ∧ a3 ≤ 3 := t8_2_23
        have c23_4_23 : ¬ (h 145 (Int.toNat a1)) < 0 := c23_4_23
        have c32_6_23 : 0 ≤ (h 145 (Int.toNat a3)) := c32_6_23
        have c51_9_23 : (h 145 (Int.toNat a1)) = (h 145 (Int.toNat a3)) := c51_9_23
        have c58_10_23 : ¬ a2 < 0 := c58_10_23
        have c63_11_23 : ¬ a4 < 0 := c63_11_23
        have c68_12_23 : ¬ a5 < 0 := c68_12_23
        have c81_14_23 : ((h 146 (Int.toNat a1)) - a5) < a2 := c81_14_23
        show Aj γ mL_law d mc ms Post 1426 [(0, vK 0), (1, vA 0), (2, vA 123), (3, vI ((i : Nat) : Int))] [vI (-1000000013), vI (-1000000012)] (mk h τ)
        refine a_icmp_eq (tgt := 1668) dL_law_1426 (by decide) (fun c => absurd c (by decide)) (fun _ => ?_)
        refine a_iconst dL_law_1429 ⟨by decide, by decide⟩ ?_
        exact a_zret dL_law_1430 rfl (by first | exact Or.inl rfl | exact Or.inr rfl | omega) (by exfalso; omega)
      · have t1_1_23 : 0 ≤ a1 ∧ a1 ≤ 3 := t1_1_23
        have t8_2_23 : 0 ≤ a3 ∧ a3 ≤ 3 := t8_2_23
        have c23_4_23 : ¬ (h 145 (Int.toNat a1)) < 0 := c23_4_23
        have c32_6_23 : 0 ≤ (h 145 (Int.toNat a3)) := c32_6_23
        have c51_9_23 : (h 145 (Int.toNat a1)) = (h 145 (Int.toNat a3)) := c51_9_23
        have c58_10_23 : ¬ a2 < 0 := c58_10_23
        have c63_11_23 : ¬ a4 < 0 := c63_11_23
        have c68_12_23 : ¬ a5 < 0 := c68_12_23
        have c81_14_23 : ¬ ((h 146 (Int.toNat a1)) - a5) < a2 := c81_14_23
        have c95_16_23 : a4 ≤ ((h 146 (Int.toNat a3)) - a5) := c95_16_23
        show Aj γ mL_law d mc ms Post 1426 [(0, vK 0), (1, vA 0), (2, vA 123), (3, vI ((i : Nat) : Int))] [vI a5, vI (-1000000012)] (mk (upR (upR h 152 (cpy (h 147) (h 152) (Int.toNat ((24 * a1) + a2)) 0 (Int.toNat a5))) 147 (cpy (cpy (h 147) (h 152) (Int.toNat ((24 * a1) + a2)) 0 (Int.toNat a5)) (h 147) 0 (Int.toNat ((24 * a3) + a4)) (Int.toNat a5))) τ)
        refine a_icmp_eq (tgt := 1668) dL_law_1426 (by decide) (fun c1426_25 => ?_) (fun c1426_25 => ?_)
        · exfalso
          omega
        · refine a_iconst dL_law_1429 ⟨by decide, by decide⟩ ?_
          exact a_zret dL_law_1430 rfl (by first | exact Or.inl rfl | exact Or.inr rfl | omega) (by exfalso; omega)
      · have t1_1_23 : 0 ≤ a1 ∧ a1 ≤ 3 := t1_1_23
        have t8_2_23 : 0 ≤ a3 ∧ a3 ≤ 3 := t8_2_23
        have c23_4_23 : ¬ (h 145 (Int.toNat a1)) < 0 := c23_4_23
        have c32_6_23 : 0 ≤ (h 145 (Int.toNat a3)) := c32_6_23
        have c51_9_23 : (h 145 (Int.toNat a1)) = (h 145 (Int.toNat a3)) := c51_9_23
        have c58_10_23 : ¬ a2 < 0 := c58_10_23
        have c63_11_23 : ¬ a4 < 0 := c63_11_23
        have c68_12_23 : ¬ a5 < 0 := c68_12_23
        have c81_14_23 : ¬ ((h 146 (Int.toNat a1)) - a5) < a2 := c81_14_23
        have c95_16_23 : ¬ a4 ≤ ((h 146 (Int.toNat a3)) - a5) := c95_16_23
        show Aj γ mL_law d mc ms Post 1426 [(0, vK 0), (1, vA 0), (2, vA 123), (3, vI ((i : Nat) : Int))] [vI (-1000000013), vI (-1000000012)] (mk h τ)
        refine a_icmp_eq (tgt := 1668) dL_law_1426 (by decide) (fun c => absurd c (by decide)) (fun _ => ?_)
        refine a_iconst dL_law_1429 ⟨by decide, by decide⟩ ?_
        exact a_zret dL_law_1430 rfl (by first | exact Or.inl rfl | exact Or.inr rfl | omega) (by exfalso; omega)
      · have t1_1_23 : 0 ≤ a1 ∧ a1 ≤ 3 := t1_1_23
        have t8_2_23 : 0 ≤ a3 ∧ a3 ≤ 3 := t8_2_23
        have c23_4_23 : ¬ (h 145 (Int.toNat a1)) < 0 := c23_4_23
        have c32_6_23 : 0 ≤ (h 145 (Int.toNat a3)) := c32_6_23
        have c51_9_23 : ¬ (h 145 (Int.toNat a1)) = (h 145 (Int.toNat a3)) := c51_9_23
        show Aj γ mL_law d mc ms Post 1426 [(0, vK 0), (1, vA 0), (2, vA 123), (3, vI ((i : Nat) : Int))] [vI (-1000000012), vI (-1000000012)] (mk h τ)
        refine a_icmp_eq (tgt := 1668) dL_law_1426 (by decide) (fun _ => ?_) (fun c => absurd c (by decide))
        exact kE h N J (IV_up (by omega) hI)
      · have t1_1_23 : 0 ≤ a1 ∧ a1 ≤ 3 := t1_1_23
        have t8_2_23 : 0 ≤ a3 ∧ a3 ≤ 3 := t8_2_23
        have c23_4_23 : ¬ (h 145 (Int.toNat a1)) < 0 := c23_4_23
        have c32_6_23 : ¬ 0 ≤ (h 145 (Int.toNat a3)) := c32_6_23
        show Aj γ mL_law d mc ms Post 1426 [(0, vK 0), (1, vA 0), (2, vA 123), (3, vI ((i : Nat) : Int))] [vI (-1000000011), vI (-1000000012)] (mk h τ)
        refine a_icmp_eq (tgt := 1668) dL_law_1426 (by decide) (fun c => absurd c (by decide)) (fun _ => ?_)
        refine a_iconst dL_law_1429 ⟨by decide, by decide⟩ ?_
        exact a_zret dL_law_1430 rfl (by first | exact Or.inl rfl | exact Or.inr rfl | omega) (by exfalso; omega)
      · exfalso
        omega
      · exfalso
        omega
    · have t1_1_1 : 0 ≤ a1 ∧ a1 ≤ 3 := t1_1_1
      have t8_2_1 : 0 ≤ a3 ∧ a3 ≤ 3 := t8_2_1
      have c39_3_1 : ¬ (h (90 + 2 * (Int.toNat a1)) 0) = (-1) := c39_3_1
      have c48_4_1 : (h (90 + 2 * (Int.toNat a3)) 0) = (-1) := c48_4_1
      show Aj γ mL_law d mc ms Post 1397 [(0, vK 0), (1, vA 0), (2, vA 123), (3, vI ((i : Nat) : Int))] [vI (-1000000011)] (mk h τ)
      refine a_aload_n (j := 2) dL_law_1397 rfl rfl (Nat.le_of_ble_eq_true rfl) ?_
      refine a_aload_n (j := 0) dL_law_1398 rfl rfl (Nat.le_of_ble_eq_true rfl) ?_
      refine a_iload_n (j := 3) dL_law_1399 rfl rfl ?_
      refine a_iconst dL_law_1400 ⟨by decide, by decide⟩ ?_
      refine a_iadd (z := (((i : Nat) : Int) + 1)) dL_law_1401 (w_ok (by omega) (by omega)) ?_
      refine a_sld (i + 1) dL_law_1402 (by omega) (by omega) ?_
      rw [ha1]
      refine a_aload_n (j := 0) dL_law_1403 rfl rfl (Nat.le_of_ble_eq_true rfl) ?_
      refine a_iload_n (j := 3) dL_law_1404 rfl rfl ?_
      refine a_iconst dL_law_1405 ⟨by decide, by decide⟩ ?_
      refine a_iadd (z := (((i : Nat) : Int) + 2)) dL_law_1406 (w_ok (by omega) (by omega)) ?_
      refine a_sld (i + 2) dL_law_1407 (by omega) (by omega) ?_
      rw [ha2]
      refine a_aload_n (j := 0) dL_law_1408 rfl rfl (Nat.le_of_ble_eq_true rfl) ?_
      refine a_iload_n (j := 3) dL_law_1409 rfl rfl ?_
      refine a_iconst dL_law_1410 ⟨by decide, by decide⟩ ?_
      refine a_iadd (z := (((i : Nat) : Int) + 3)) dL_law_1411 (w_ok (by omega) (by omega)) ?_
      refine a_sld (i + 3) dL_law_1412 (by omega) (by omega) ?_
      rw [ha3]
      refine a_aload_n (j := 0) dL_law_1413 rfl rfl (Nat.le_of_ble_eq_true rfl) ?_
      refine a_iload_n (j := 3) dL_law_1414 rfl rfl ?_
      refine a_iconst dL_law_1415 ⟨by decide, by decide⟩ ?_
      refine a_iadd (z := (((i : Nat) : Int) + 4)) dL_law_1416 (w_ok (by omega) (by omega)) ?_
      refine a_sld (i + 4) dL_law_1417 (by omega) (by omega) ?_
      rw [ha4]
      refine a_aload_n (j := 0) dL_law_1418 rfl rfl (Nat.le_of_ble_eq_true rfl) ?_
      refine a_iload_n (j := 3) dL_law_1419 rfl rfl ?_
      refine a_iconst dL_law_1420 ⟨by decide, by decide⟩ ?_
      refine a_iadd (z := (((i : Nat) : Int) + 5)) dL_law_1421 (w_ok (by omega) (by omega)) ?_
      refine a_sld (i + 5) dL_law_1422 (by omega) (by omega) ?_
      rw [ha5]
      refine b_callV (d' := d - 1) (mc' := 0) (ms' := 0) (mc1 := mc) (ms1 := ms) (st := [vI (-1000000011)]) (b := 123) [vI a1, vI a2, vI a3, vI a4, vI a5] dL_law_1423 mwX9_copy lkL_171 (by decide) rfl rc_X9 rfl (Nat.le_of_ble_eq_true rfl) (by omega) (by omega) (by omega) (c_X9_copy (v1 := (h 146 (Int.toNat a1))) (v2 := (h 146 (Int.toNat a3))) (v3 := (h 145 (Int.toNat a1))) (v4 := (h 145 (Int.toNat a3))) (f5 := (h 147)) (f6 := (h 152)) (by omega)  rfl rfl rfl rfl rfl rfl (show Im a1 4 (0 ≤ (h 146 (Int.toNat a1)) ∧ (h 146 (Int.toNat a1)) ≤ 24) from fun _ _ => (by omega)) (show Im a3 4 (0 ≤ (h 146 (Int.toNat a3)) ∧ (h 146 (Int.toNat a3)) ≤ 24) from fun _ _ => (by omega)) (fun t1_1_26 t8_2_26 c23_4_26 => ?_) (fun t1_1_26 t8_2_26 c23_4_26 c32_6_26 c51_9_26 c58_10_26 => ?_) (fun t1_1_26 t8_2_26 c23_4_26 c32_6_26 c51_9_26 c58_10_26 c63_11_26 => ?_) (fun t1_1_26 t8_2_26 c23_4_26 c32_6_26 c51_9_26 c58_10_26 c63_11_26 c68_12_26 => ?_) (fun t1_1_26 t8_2_26 c23_4_26 c32_6_26 c51_9_26 c58_10_26 c63_11_26 c68_12_26 c81_14_26 => ?_) (fun t1_1_26 t8_2_26 c23_4_26 c32_6_26 c51_9_26 c58_10_26 c63_11_26 c68_12_26 c81_14_26 c95_16_26 => ?_) (fun t1_1_26 t8_2_26 c23_4_26 c32_6_26 c51_9_26 c58_10_26 c63_11_26 c68_12_26 c81_14_26 c95_16_26 => ?_) (fun t1_1_26 t8_2_26 c23_4_26 c32_6_26 c51_9_26 => ?_) (fun t1_1_26 t8_2_26 c23_4_26 c32_6_26 => ?_) (fun t1_1_26 t8_2_26 => ?_) (fun t1_1_26 => ?_))
      · have t1_1_26 : 0 ≤ a1 ∧ a1 ≤ 3 := t1_1_26
        have t8_2_26 : 0 ≤ a3 ∧ a3 ≤ 3 := t8_2_26
        have c23_4_26 : (h 145 (Int.toNat a1)) < 0 := c23_4_26
        show Aj γ mL_law d mc ms Post 1426 [(0, vK 0), (1, vA 0), (2, vA 123), (3, vI ((i : Nat) : Int))] [vI (-1000000011), vI (-1000000011)] (mk h τ)
        refine a_icmp_eq (tgt := 1668) dL_law_1426 (by decide) (fun _ => ?_) (fun c => absurd c (by decide))
        exact kE h N J (IV_up (by omega) hI)
      · have t1_1_26 : 0 ≤ a1 ∧ a1 ≤ 3 := t1_1_26
        have t8_2_26 : 0 ≤ a3 ∧ a3 ≤ 3 := t8_2_26
        have c23_4_26 : ¬ (h 145 (Int.toNat a1)) < 0 := c23_4_26
        have c32_6_26 : 0 ≤ (h 145 (Int.toNat a3)) := c32_6_26
        have c51_9_26 : (h 145 (Int.toNat a1)) = (h 145 (Int.toNat a3)) := c51_9_26
        have c58_10_26 : a2 < 0 := c58_10_26
        show Aj γ mL_law d mc ms Post 1426 [(0, vK 0), (1, vA 0), (2, vA 123), (3, vI ((i : Nat) : Int))] [vI (-1000000013), vI (-1000000011)] (mk h τ)
        refine a_icmp_eq (tgt := 1668) dL_law_1426 (by decide) (fun c => absurd c (by decide)) (fun _ => ?_)
        refine a_iconst dL_law_1429 ⟨by decide, by decide⟩ ?_
        exact a_zret dL_law_1430 rfl (by first | exact Or.inl rfl | exact Or.inr rfl | omega) (by exfalso; omega)
      · have t1_1_26 : 0 ≤ a1 ∧ a1 ≤ 3 := t1_1_26
        have t8_2_26 : 0 ≤ a3 ∧ a3 ≤ 3 := t8_2_26
        have c23_4_26 : ¬ (h 145 (Int.toNat a1)) < 0 := c23_4_26
        have c32_6_26 : 0 ≤ (h 145 (Int.toNat a3)) := c32_6_26
        have c51_9_26 : (h 145 (Int.toNat a1)) = (h 145 (Int.toNat a3)) := c51_9_26
        have c58_10_26 : ¬ a2 < 0 := c58_10_26
        have c63_11_26 : a4 < 0 := c63_11_26
        show Aj γ mL_law d mc ms Post 1426 [(0, vK 0), (1, vA 0), (2, vA 123), (3, vI ((i : Nat) : Int))] [vI (-1000000013), vI (-1000000011)] (mk h τ)
        refine a_icmp_eq (tgt := 1668) dL_law_1426 (by decide) (fun c => absurd c (by decide)) (fun _ => ?_)
        refine a_iconst dL_law_1429 ⟨by decide, by decide⟩ ?_
        exact a_zret dL_law_1430 rfl (by first | exact Or.inl rfl | exact Or.inr rfl | omega) (by exfalso; omega)
      · have t1_1_26 : 0 ≤ a1 ∧ a1 ≤ 3 := t1_1_26
        have t8_2_26 : 0 ≤ a3 ∧ a3 ≤ 3 := t8_2_26
        have c23_4_26 : ¬ (h 145 (Int.toNat a1)) < 0 := c23_4_26
        have c32_6_26 : 0 ≤ (h 145 (Int.toNat a3)) := c32_6_26
        have c51_9_26 : (h 145 (Int.toNat a1)) = (h 145 (Int.toNat a3)) := c51_9_26
        have c58_10_26 : ¬ a2 < 0 := c58_10_26
        have c63_11_26 : ¬ a4 < 0 := c63_11_26
        have c68_12_26 : a5 < 0 := c68_12_26
        show Aj γ mL_law d mc ms Post 1426 [(0, vK 0), (1, vA 0), (2, vA 123), (3, vI ((i : Nat) : Int))] [vI (-1000000013), vI (-1000000011)] (mk h τ)
        refine a_icmp_eq (tgt := 1668) dL_law_1426 (by decide) (fun c => absurd c (by decide)) (fun _ => ?_)
        refine a_iconst dL_law_1429 ⟨by decide, by decide⟩ ?_
        exact a_zret dL_law_1430 rfl (by first | exact Or.inl rfl | exact Or.inr rfl | omega) (by exfalso; omega)
      · have t1_1_26 : 0 ≤ a1 ∧ a1 ≤ 3 := t1_1_26
        have t8_2_26 : 0 ≤ a3 ∧ a3 ≤ 3 := t8_2_26
        have c23_4_26 : ¬ (h 145 (Int.toNat a1)) < 0 := c23_4_26
        have c32_6_26 : 0 ≤ (h 145 (Int.toNat a3)) := c32_6_26
        have c51_9_26 : (h 145 (Int.toNat a1)) = (h 145 (Int.toNat a3)) := c51_9_26
        have c58_10_26 : ¬ a2 < 0 := c58_10_26
        have c63_11_26 : ¬ a4 < 0 := c63_11_26
        have c68_12_26 : ¬ a5 < 0 := c68_12_26
        have c81_14_26 : ((h 146 (Int.toNat a1)) - a5) < a2 := c81_14_26
        show Aj γ mL_law d mc ms Post 1426 [(0, vK 0), (1, vA 0), (2, vA 123), (3, vI ((i : Nat) : Int))] [vI (-1000000013), vI (-1000000011)] (mk h τ)
        refine a_icmp_eq (tgt := 1668) dL_law_1426 (by decide) (fun c => absurd c (by decide)) (fun _ => ?_)
        refine a_iconst dL_law_1429 ⟨by decide, by decide⟩ ?_
        exact a_zret dL_law_1430 rfl (by first | exact Or.inl rfl | exact Or.inr rfl | omega) (by exfalso; omega)
      · have t1_1_26 : 0 ≤ a1 ∧ a1 ≤ 3 := t1_1_26
        have t8_2_26 : 0 ≤ a3 ∧ a3 ≤ 3 := t8_2_26
        have c23_4_26 : ¬ (h 145 (Int.toNat a1)) < 0 := c23_4_26
        have c32_6_26 : 0 ≤ (h 145 (Int.toNat a3)) := c32_6_26
        have c51_9_26 : (h 145 (Int.toNat a1)) = (h 145 (Int.toNat a3)) := c51_9_26
        have c58_10_26 : ¬ a2 < 0 := c58_10_26
        have c63_11_26 : ¬ a4 < 0 := c63_11_26
        have c68_12_26 : ¬ a5 < 0 := c68_12_26
        have c81_14_26 : ¬ ((h 146 (Int.toNat a1)) - a5) < a2 := c81_14_26
        have c95_16_26 : a4 ≤ ((h 146 (Int.toNat a3)) - a5) := c95_16_26
        show Aj γ mL_law d mc ms Post 1426 [(0, vK 0), (1, vA 0), (2, vA 123), (3, vI ((i : Nat) : Int))] [vI a5, vI (-1000000011)] (mk (upR (upR h 152 (cpy (h 147) (h 152) (Int.toNat ((24 * a1) + a2)) 0 (Int.toNat a5))) 147 (cpy (cpy (h 147) (h 152) (Int.toNat ((24 * a1) + a2)) 0 (Int.toNat a5)) (h 147) 0 (Int.toNat ((24 * a3) + a4)) (Int.toNat a5))) τ)
        refine a_icmp_eq (tgt := 1668) dL_law_1426 (by decide) (fun c1426_28 => ?_) (fun c1426_28 => ?_)
        · exfalso
          omega
        · refine a_iconst dL_law_1429 ⟨by decide, by decide⟩ ?_
          exact a_zret dL_law_1430 rfl (by first | exact Or.inl rfl | exact Or.inr rfl | omega) (by exfalso; omega)
      · have t1_1_26 : 0 ≤ a1 ∧ a1 ≤ 3 := t1_1_26
        have t8_2_26 : 0 ≤ a3 ∧ a3 ≤ 3 := t8_2_26
        have c23_4_26 : ¬ (h 145 (Int.toNat a1)) < 0 := c23_4_26
        have c32_6_26 : 0 ≤ (h 145 (Int.toNat a3)) := c32_6_26
        have c51_9_26 : (h 145 (Int.toNat a1)) = (h 145 (Int.toNat a3)) := c51_9_26
        have c58_10_26 : ¬ a2 < 0 := c58_10_26
        have c63_11_26 : ¬ a4 < 0 := c63_11_26
        have c68_12_26 : ¬ a5 < 0 := c68_12_26
        have c81_14_26 : ¬ ((h 146 (Int.toNat a1)) - a5) < a2 := c81_14_26
        have c95_16_26 : ¬ a4 ≤ ((h 146 (Int.toNat a3)) - a5) := c95_16_26
        show Aj γ mL_law d mc ms Post 1426 [(0, vK 0), (1, vA 0), (2, vA 123), (3, vI ((i : Nat) : Int))] [vI (-1000000013), vI (-1000000011)] (mk h τ)
        refine a_icmp_eq (tgt := 1668) dL_law_1426 (by decide) (fun c => absurd c (by decide)) (fun _ => ?_)
        refine a_iconst dL_law_1429 ⟨by decide, by decide⟩ ?_
        exact a_zret dL_law_1430 rfl (by first | exact Or.inl rfl | exact Or.inr rfl | omega) (by exfalso; omega)
      · have t1_1_26 : 0 ≤ a1 ∧ a1 ≤ 3 := t1_1_26
        have t8_2_26 : 0 ≤ a3 ∧ a3 ≤ 3 := t8_2_26
        have c23_4_26 : ¬ (h 145 (Int.toNat a1)) < 0 := c23_4_26
        have c32_6_26 : 0 ≤ (h 145 (Int.toNat a3)) := c32_6_26
        have c51_9_26 : ¬ (h 145 (Int.toNat a1)) = (h 145 (Int.toNat a3)) := c51_9_26
        show Aj γ mL_law d mc ms Post 1426 [(0, vK 0), (1, vA 0), (2, vA 123), (3, vI ((i : Nat) : Int))] [vI (-1000000012), vI (-1000000011)] (mk h τ)
        refine a_icmp_eq (tgt := 1668) dL_law_1426 (by decide) (fun c => absurd c (by decide)) (fun _ => ?_)
        refine a_iconst dL_law_1429 ⟨by decide, by decide⟩ ?_
        exact a_zret dL_law_1430 rfl (by first | exact Or.inl rfl | exact Or.inr rfl | omega) (by exfalso; omega)
      · have t1_1_26 : 0 ≤ a1 ∧ a1 ≤ 3 := t1_1_26
        have t8_2_26 : 0 ≤ a3 ∧ a3 ≤ 3 := t8_2_26
        have c23_4_26 : ¬ (h 145 (Int.toNat a1)) < 0 := c23_4_26
        have c32_6_26 : ¬ 0 ≤ (h 145 (Int.toNat a3)) := c32_6_26
        show Aj γ mL_law d mc ms Post 1426 [(0, vK 0), (1, vA 0), (2, vA 123), (3, vI ((i : Nat) : Int))] [vI (-1000000011), vI (-1000000011)] (mk h τ)
        refine a_icmp_eq (tgt := 1668) dL_law_1426 (by decide) (fun _ => ?_) (fun c => absurd c (by decide))
        exact kE h N J (IV_up (by omega) hI)
      · exfalso
        omega
      · exfalso
        omega
    · have t1_1_1 : 0 ≤ a1 ∧ a1 ≤ 3 := t1_1_1
      have t8_2_1 : ¬ (0 ≤ a3 ∧ a3 ≤ 3) := t8_2_1
      show Aj γ mL_law d mc ms Post 1397 [(0, vK 0), (1, vA 0), (2, vA 123), (3, vI ((i : Nat) : Int))] [vI (-1000000001)] (mk h τ)
      refine a_aload_n (j := 2) dL_law_1397 rfl rfl (Nat.le_of_ble_eq_true rfl) ?_
      refine a_aload_n (j := 0) dL_law_1398 rfl rfl (Nat.le_of_ble_eq_true rfl) ?_
      refine a_iload_n (j := 3) dL_law_1399 rfl rfl ?_
      refine a_iconst dL_law_1400 ⟨by decide, by decide⟩ ?_
      refine a_iadd (z := (((i : Nat) : Int) + 1)) dL_law_1401 (w_ok (by omega) (by omega)) ?_
      refine a_sld (i + 1) dL_law_1402 (by omega) (by omega) ?_
      rw [ha1]
      refine a_aload_n (j := 0) dL_law_1403 rfl rfl (Nat.le_of_ble_eq_true rfl) ?_
      refine a_iload_n (j := 3) dL_law_1404 rfl rfl ?_
      refine a_iconst dL_law_1405 ⟨by decide, by decide⟩ ?_
      refine a_iadd (z := (((i : Nat) : Int) + 2)) dL_law_1406 (w_ok (by omega) (by omega)) ?_
      refine a_sld (i + 2) dL_law_1407 (by omega) (by omega) ?_
      rw [ha2]
      refine a_aload_n (j := 0) dL_law_1408 rfl rfl (Nat.le_of_ble_eq_true rfl) ?_
      refine a_iload_n (j := 3) dL_law_1409 rfl rfl ?_
      refine a_iconst dL_law_1410 ⟨by decide, by decide⟩ ?_
      refine a_iadd (z := (((i : Nat) : Int) + 3)) dL_law_1411 (w_ok (by omega) (by omega)) ?_
      refine a_sld (i + 3) dL_law_1412 (by omega) (by omega) ?_
      rw [ha3]
      refine a_aload_n (j := 0) dL_law_1413 rfl rfl (Nat.le_of_ble_eq_true rfl) ?_
      refine a_iload_n (j := 3) dL_law_1414 rfl rfl ?_
      refine a_iconst dL_law_1415 ⟨by decide, by decide⟩ ?_
      refine a_iadd (z := (((i : Nat) : Int) + 4)) dL_law_1416 (w_ok (by omega) (by omega)) ?_
      refine a_sld (i + 4) dL_law_1417 (by omega) (by omega) ?_
      rw [ha4]
      refine a_aload_n (j := 0) dL_law_1418 rfl rfl (Nat.le_of_ble_eq_true rfl) ?_
      refine a_iload_n (j := 3) dL_law_1419 rfl rfl ?_
      refine a_iconst dL_law_1420 ⟨by decide, by decide⟩ ?_
      refine a_iadd (z := (((i : Nat) : Int) + 5)) dL_law_1421 (w_ok (by omega) (by omega)) ?_
      refine a_sld (i + 5) dL_law_1422 (by omega) (by omega) ?_
      rw [ha5]
      refine b_callV (d' := d - 1) (mc' := 0) (ms' := 0) (mc1 := mc) (ms1 := ms) (st := [vI (-1000000001)]) (b := 123) [vI a1, vI a2, vI a3, vI a4, vI a5] dL_law_1423 mwX9_copy lkL_171 (by decide) rfl rc_X9 rfl (Nat.le_of_ble_eq_true rfl) (by omega) (by omega) (by omega) (c_X9_copy (v1 := (h 146 (Int.toNat a1))) (v2 := (h 146 (Int.toNat a3))) (v3 := (h 145 (Int.toNat a1))) (v4 := (h 145 (Int.toNat a3))) (f5 := (h 147)) (f6 := (h 152)) (by omega)  rfl rfl rfl rfl rfl rfl (show Im a1 4 (0 ≤ (h 146 (Int.toNat a1)) ∧ (h 146 (Int.toNat a1)) ≤ 24) from fun _ _ => (by omega)) (show Im a3 4 (0 ≤ (h 146 (Int.toNat a3)) ∧ (h 146 (Int.toNat a3)) ≤ 24) from fun _ _ => (by omega)) (fun t1_1_29 t8_2_29 c23_4_29 => ?_) (fun t1_1_29 t8_2_29 c23_4_29 c32_6_29 c51_9_29 c58_10_29 => ?_) (fun t1_1_29 t8_2_29 c23_4_29 c32_6_29 c51_9_29 c58_10_29 c63_11_29 => ?_) (fun t1_1_29 t8_2_29 c23_4_29 c32_6_29 c51_9_29 c58_10_29 c63_11_29 c68_12_29 => ?_) (fun t1_1_29 t8_2_29 c23_4_29 c32_6_29 c51_9_29 c58_10_29 c63_11_29 c68_12_29 c81_14_29 => ?_) (fun t1_1_29 t8_2_29 c23_4_29 c32_6_29 c51_9_29 c58_10_29 c63_11_29 c68_12_29 c81_14_29 c95_16_29 => ?_) (fun t1_1_29 t8_2_29 c23_4_29 c32_6_29 c51_9_29 c58_10_29 c63_11_29 c68_12_29 c81_14_29 c95_16_29 => ?_) (fun t1_1_29 t8_2_29 c23_4_29 c32_6_29 c51_9_29 => ?_) (fun t1_1_29 t8_2_29 c23_4_29 c32_6_29 => ?_) (fun t1_1_29 t8_2_29 => ?_) (fun t1_1_29 => ?_))
      · exfalso
        omega
      · exfalso
        omega
      · exfalso
        omega
      · exfalso
        omega
      · exfalso
        omega
      · exfalso
        omega
      · exfalso
        omega
      · exfalso
        omega
      · exfalso
        omega
      · have t1_1_29 : 0 ≤ a1 ∧ a1 ≤ 3 := t1_1_29
        have t8_2_29 : ¬ (0 ≤ a3 ∧ a3 ≤ 3) := t8_2_29
        show Aj γ mL_law d mc ms Post 1426 [(0, vK 0), (1, vA 0), (2, vA 123), (3, vI ((i : Nat) : Int))] [vI (-1000000001), vI (-1000000001)] (mk h τ)
        refine a_icmp_eq (tgt := 1668) dL_law_1426 (by decide) (fun _ => ?_) (fun c => absurd c (by decide))
        exact kE h N J (IV_up (by omega) hI)
      · exfalso
        omega
    · have t1_1_1 : ¬ (0 ≤ a1 ∧ a1 ≤ 3) := t1_1_1
      show Aj γ mL_law d mc ms Post 1397 [(0, vK 0), (1, vA 0), (2, vA 123), (3, vI ((i : Nat) : Int))] [vI (-1000000001)] (mk h τ)
      refine a_aload_n (j := 2) dL_law_1397 rfl rfl (Nat.le_of_ble_eq_true rfl) ?_
      refine a_aload_n (j := 0) dL_law_1398 rfl rfl (Nat.le_of_ble_eq_true rfl) ?_
      refine a_iload_n (j := 3) dL_law_1399 rfl rfl ?_
      refine a_iconst dL_law_1400 ⟨by decide, by decide⟩ ?_
      refine a_iadd (z := (((i : Nat) : Int) + 1)) dL_law_1401 (w_ok (by omega) (by omega)) ?_
      refine a_sld (i + 1) dL_law_1402 (by omega) (by omega) ?_
      rw [ha1]
      refine a_aload_n (j := 0) dL_law_1403 rfl rfl (Nat.le_of_ble_eq_true rfl) ?_
      refine a_iload_n (j := 3) dL_law_1404 rfl rfl ?_
      refine a_iconst dL_law_1405 ⟨by decide, by decide⟩ ?_
      refine a_iadd (z := (((i : Nat) : Int) + 2)) dL_law_1406 (w_ok (by omega) (by omega)) ?_
      refine a_sld (i + 2) dL_law_1407 (by omega) (by omega) ?_
      rw [ha2]
      refine a_aload_n (j := 0) dL_law_1408 rfl rfl (Nat.le_of_ble_eq_true rfl) ?_
      refine a_iload_n (j := 3) dL_law_1409 rfl rfl ?_
      refine a_iconst dL_law_1410 ⟨by decide, by decide⟩ ?_
      refine a_iadd (z := (((i : Nat) : Int) + 3)) dL_law_1411 (w_ok (by omega) (by omega)) ?_
      refine a_sld (i + 3) dL_law_1412 (by omega) (by omega) ?_
      rw [ha3]
      refine a_aload_n (j := 0) dL_law_1413 rfl rfl (Nat.le_of_ble_eq_true rfl) ?_
      refine a_iload_n (j := 3) dL_law_1414 rfl rfl ?_
      refine a_iconst dL_law_1415 ⟨by decide, by decide⟩ ?_
      refine a_iadd (z := (((i : Nat) : Int) + 4)) dL_law_1416 (w_ok (by omega) (by omega)) ?_
      refine a_sld (i + 4) dL_law_1417 (by omega) (by omega) ?_
      rw [ha4]
      refine a_aload_n (j := 0) dL_law_1418 rfl rfl (Nat.le_of_ble_eq_true rfl) ?_
      refine a_iload_n (j := 3) dL_law_1419 rfl rfl ?_
      refine a_iconst dL_law_1420 ⟨by decide, by decide⟩ ?_
      refine a_iadd (z := (((i : Nat) : Int) + 5)) dL_law_1421 (w_ok (by omega) (by omega)) ?_
      refine a_sld (i + 5) dL_law_1422 (by omega) (by omega) ?_
      rw [ha5]
      refine b_callV (d' := d - 1) (mc' := 0) (ms' := 0) (mc1 := mc) (ms1 := ms) (st := [vI (-1000000001)]) (b := 123) [vI a1, vI a2, vI a3, vI a4, vI a5] dL_law_1423 mwX9_copy lkL_171 (by decide) rfl rc_X9 rfl (Nat.le_of_ble_eq_true rfl) (by omega) (by omega) (by omega) (c_X9_copy (v1 := (h 146 (Int.toNat a1))) (v2 := (h 146 (Int.toNat a3))) (v3 := (h 145 (Int.toNat a1))) (v4 := (h 145 (Int.toNat a3))) (f5 := (h 147)) (f6 := (h 152)) (by omega)  rfl rfl rfl rfl rfl rfl (show Im a1 4 (0 ≤ (h 146 (Int.toNat a1)) ∧ (h 146 (Int.toNat a1)) ≤ 24) from fun _ _ => (by omega)) (show Im a3 4 (0 ≤ (h 146 (Int.toNat a3)) ∧ (h 146 (Int.toNat a3)) ≤ 24) from fun _ _ => (by omega)) (fun t1_1_31 t8_2_31 c23_4_31 => ?_) (fun t1_1_31 t8_2_31 c23_4_31 c32_6_31 c51_9_31 c58_10_31 => ?_) (fun t1_1_31 t8_2_31 c23_4_31 c32_6_31 c51_9_31 c58_10_31 c63_11_31 => ?_) (fun t1_1_31 t8_2_31 c23_4_31 c32_6_31 c51_9_31 c58_10_31 c63_11_31 c68_12_31 => ?_) (fun t1_1_31 t8_2_31 c23_4_31 c32_6_31 c51_9_31 c58_10_31 c63_11_31 c68_12_31 c81_14_31 => ?_) (fun t1_1_31 t8_2_31 c23_4_31 c32_6_31 c51_9_31 c58_10_31 c63_11_31 c68_12_31 c81_14_31 c95_16_31 => ?_) (fun t1_1_31 t8_2_31 c23_4_31 c32_6_31 c51_9_31 c58_10_31 c63_11_31 c68_12_31 c81_14_31 c95_16_31 => ?_) (fun t1_1_31 t8_2_31 c23_4_31 c32_6_31 c51_9_31 => ?_) (fun t1_1_31 t8_2_31 c23_4_31 c32_6_31 => ?_) (fun t1_1_31 t8_2_31 => ?_) (fun t1_1_31 => ?_))
      · exfalso
        omega
      · exfalso
        omega
      · exfalso
        omega
      · exfalso
        omega
      · exfalso
        omega
      · exfalso
        omega
      · exfalso
        omega
      · exfalso
        omega
      · exfalso
        omega
      · exfalso
        omega
      · have t1_1_31 : ¬ (0 ≤ a1 ∧ a1 ≤ 3) := t1_1_31
        show Aj γ mL_law d mc ms Post 1426 [(0, vK 0), (1, vA 0), (2, vA 123), (3, vI ((i : Nat) : Int))] [vI (-1000000001), vI (-1000000001)] (mk h τ)
        refine a_icmp_eq (tgt := 1668) dL_law_1426 (by decide) (fun _ => ?_) (fun c => absurd c (by decide))
        exact kE h N J (IV_up (by omega) hI)
  · obtain ⟨s0, rfl⟩ : ∃ z : Nat, a1 = (z : Int) := ⟨Int.toNat a1, by omega⟩
    obtain ⟨k0, k1, k2, k3, k4⟩ := hO.2.1 s0 (by omega)
    obtain ⟨b0, rfl⟩ : ∃ z : Nat, a3 = (z : Int) := ⟨Int.toNat a3, by omega⟩
    obtain ⟨m0, m1, m2, m3, m4⟩ := hO.2.1 b0 (by omega)
    refine a_aload_n (j := 1) dL_law_1368 rfl rfl (Nat.le_of_ble_eq_true rfl) ?_
    refine a_aload_n (j := 0) dL_law_1369 rfl rfl (Nat.le_of_ble_eq_true rfl) ?_
    refine a_iload_n (j := 3) dL_law_1370 rfl rfl ?_
    refine a_iconst dL_law_1371 ⟨by decide, by decide⟩ ?_
    refine a_iadd (z := (((i : Nat) : Int) + 1)) dL_law_1372 (w_ok (by omega) (by omega)) ?_
    refine a_sld (i + 1) dL_law_1373 (by omega) (by omega) ?_
    rw [ha1]
    refine a_aload_n (j := 0) dL_law_1374 rfl rfl (Nat.le_of_ble_eq_true rfl) ?_
    refine a_iload_n (j := 3) dL_law_1375 rfl rfl ?_
    refine a_iconst dL_law_1376 ⟨by decide, by decide⟩ ?_
    refine a_iadd (z := (((i : Nat) : Int) + 2)) dL_law_1377 (w_ok (by omega) (by omega)) ?_
    refine a_sld (i + 2) dL_law_1378 (by omega) (by omega) ?_
    rw [ha2]
    refine a_aload_n (j := 0) dL_law_1379 rfl rfl (Nat.le_of_ble_eq_true rfl) ?_
    refine a_iload_n (j := 3) dL_law_1380 rfl rfl ?_
    refine a_iconst dL_law_1381 ⟨by decide, by decide⟩ ?_
    refine a_iadd (z := (((i : Nat) : Int) + 3)) dL_law_1382 (w_ok (by omega) (by omega)) ?_
    refine a_sld (i + 3) dL_law_1383 (by omega) (by omega) ?_
    rw [ha3]
    refine a_aload_n (j := 0) dL_law_1384 rfl rfl (Nat.le_of_ble_eq_true rfl) ?_
    refine a_iload_n (j := 3) dL_law_1385 rfl rfl ?_
    refine a_iconst dL_law_1386 ⟨by decide, by decide⟩ ?_
    refine a_iadd (z := (((i : Nat) : Int) + 4)) dL_law_1387 (w_ok (by omega) (by omega)) ?_
    refine a_sld (i + 4) dL_law_1388 (by omega) (by omega) ?_
    rw [ha4]
    refine a_aload_n (j := 0) dL_law_1389 rfl rfl (Nat.le_of_ble_eq_true rfl) ?_
    refine a_iload_n (j := 3) dL_law_1390 rfl rfl ?_
    refine a_iconst dL_law_1391 ⟨by decide, by decide⟩ ?_
    refine a_iadd (z := (((i : Nat) : Int) + 5)) dL_law_1392 (w_ok (by omega) (by omega)) ?_
    refine a_sld (i + 5) dL_law_1393 (by omega) (by omega) ?_
    rw [ha5]
    refine b_callV (d' := d - 1) (mc' := 0) (ms' := 0) (mc1 := mc) (ms1 := ms) (st := []) (b := 0) [vI ((s0 : Nat) : Int), vI a2, vI ((b0 : Nat) : Int), vI a4, vI a5] dL_law_1394 mwX8_copy lkL_167 (by decide) rfl rc_X8 rfl (Nat.le_of_ble_eq_true rfl) (by omega) (by omega) (by omega) (c_X8_copy (v1 := (h 146 s0)) (v2 := (h 146 b0)) (v3 := (h 145 s0)) (v4 := (h 145 b0)) (f5 := (h ((90 + 2 * s0) + 1))) (f6 := (h ((90 + 2 * b0) + 1))) (by omega)  k1 m1 k0 m0 rfl rfl (show Im ((s0 : Nat) : Int) 4 (0 ≤ (h 146 s0) ∧ (h 146 s0) ≤ 24) from fun _ _ => (by omega)) (show Im ((b0 : Nat) : Int) 4 (0 ≤ (h 146 b0) ∧ (h 146 b0) ≤ 24) from fun _ _ => (by omega)) (fun t1_1_1 t8_2_1 c39_3_1 => ?_) (fun t1_1_1 t8_2_1 c39_3_1 c48_4_1 c65_5_1 t76_6_1 t88_7_1 => ?_) (fun t1_1_1 t8_2_1 c39_3_1 c48_4_1 c65_5_1 t76_6_1 t88_7_1 => ?_) (fun t1_1_1 t8_2_1 c39_3_1 c48_4_1 c65_5_1 t76_6_1 => ?_) (fun t1_1_1 t8_2_1 c39_3_1 c48_4_1 c65_5_1 => ?_) (fun t1_1_1 t8_2_1 c39_3_1 c48_4_1 => ?_) (fun t1_1_1 t8_2_1 => ?_) (fun t1_1_1 => ?_))
    · have t1_1_1 : 0 ≤ ((s0 : Nat) : Int) ∧ ((s0 : Nat) : Int) ≤ 3 := t1_1_1
      have t8_2_1 : 0 ≤ ((b0 : Nat) : Int) ∧ ((b0 : Nat) : Int) ≤ 3 := t8_2_1
      have c39_3_1 : (h 145 s0) = (-1) := c39_3_1
      show Aj γ mL_law d mc ms Post 1397 [(0, vK 0), (1, vA 0), (2, vA 123), (3, vI ((i : Nat) : Int))] [vI (-1000000011)] (mk h τ)
      refine a_aload_n (j := 2) dL_law_1397 rfl rfl (Nat.le_of_ble_eq_true rfl) ?_
      refine a_aload_n (j := 0) dL_law_1398 rfl rfl (Nat.le_of_ble_eq_true rfl) ?_
      refine a_iload_n (j := 3) dL_law_1399 rfl rfl ?_
      refine a_iconst dL_law_1400 ⟨by decide, by decide⟩ ?_
      refine a_iadd (z := (((i : Nat) : Int) + 1)) dL_law_1401 (w_ok (by omega) (by omega)) ?_
      refine a_sld (i + 1) dL_law_1402 (by omega) (by omega) ?_
      rw [ha1]
      refine a_aload_n (j := 0) dL_law_1403 rfl rfl (Nat.le_of_ble_eq_true rfl) ?_
      refine a_iload_n (j := 3) dL_law_1404 rfl rfl ?_
      refine a_iconst dL_law_1405 ⟨by decide, by decide⟩ ?_
      refine a_iadd (z := (((i : Nat) : Int) + 2)) dL_law_1406 (w_ok (by omega) (by omega)) ?_
      refine a_sld (i + 2) dL_law_1407 (by omega) (by omega) ?_
      rw [ha2]
      refine a_aload_n (j := 0) dL_law_1408 rfl rfl (Nat.le_of_ble_eq_true rfl) ?_
      refine a_iload_n (j := 3) dL_law_1409 rfl rfl ?_
      refine a_iconst dL_law_1410 ⟨by decide, by decide⟩ ?_
      refine a_iadd (z := (((i : Nat) : Int) + 3)) dL_law_1411 (w_ok (by omega) (by omega)) ?_
      refine a_sld (i + 3) dL_law_1412 (by omega) (by omega) ?_
      rw [ha3]
      refine a_aload_n (j := 0) dL_law_1413 rfl rfl (Nat.le_of_ble_eq_true rfl) ?_
      refine a_iload_n (j := 3) dL_law_1414 rfl rfl ?_
      refine a_iconst dL_law_1415 ⟨by decide, by decide⟩ ?_
      refine a_iadd (z := (((i : Nat) : Int) + 4)) dL_law_1416 (w_ok (by omega) (by omega)) ?_
      refine a_sld (i + 4) dL_law_1417 (by omega) (by omega) ?_
      rw [ha4]
      refine a_aload_n (j := 0) dL_law_1418 rfl rfl (Nat.le_of_ble_eq_true rfl) ?_
      refine a_iload_n (j := 3) dL_law_1419 rfl rfl ?_
      refine a_iconst dL_law_1420 ⟨by decide, by decide⟩ ?_
      refine a_iadd (z := (((i : Nat) : Int) + 5)) dL_law_1421 (w_ok (by omega) (by omega)) ?_
      refine a_sld (i + 5) dL_law_1422 (by omega) (by omega) ?_
      rw [ha5]
      refine b_callV (d' := d - 1) (mc' := 0) (ms' := 0) (mc1 := mc) (ms1 := ms) (st := [vI (-1000000011)]) (b := 123) [vI ((s0 : Nat) : Int), vI a2, vI ((b0 : Nat) : Int), vI a4, vI a5] dL_law_1423 mwX9_copy lkL_171 (by decide) rfl rc_X9 rfl (Nat.le_of_ble_eq_true rfl) (by omega) (by omega) (by omega) (c_X9_copy (v1 := (h 146 s0)) (v2 := (h 146 b0)) (v3 := (h 145 s0)) (v4 := (h 145 b0)) (f5 := (h 147)) (f6 := (h 152)) (by omega)  rfl rfl rfl rfl rfl rfl (show Im ((s0 : Nat) : Int) 4 (0 ≤ (h 146 s0) ∧ (h 146 s0) ≤ 24) from fun _ _ => (by omega)) (show Im ((b0 : Nat) : Int) 4 (0 ≤ (h 146 b0) ∧ (h 146 b0) ≤ 24) from fun _ _ => (by omega)) (fun t1_1_3 t8_2_3 c23_4_3 => ?_) (fun t1_1_3 t8_2_3 c23_4_3 c32_6_3 c51_9_3 c58_10_3 => ?_) (fun t1_1_3 t8_2_3 c23_4_3 c32_6_3 c51_9_3 c58_10_3 c63_11_3 => ?_) (fun t1_1_3 t8_2_3 c23_4_3 c32_6_3 c51_9_3 c58_10_3 c63_11_3 c68_12_3 => ?_) (fun t1_1_3 t8_2_3 c23_4_3 c32_6_3 c51_9_3 c58_10_3 c63_11_3 c68_12_3 c81_14_3 => ?_) (fun t1_1_3 t8_2_3 c23_4_3 c32_6_3 c51_9_3 c58_10_3 c63_11_3 c68_12_3 c81_14_3 c95_16_3 => ?_) (fun t1_1_3 t8_2_3 c23_4_3 c32_6_3 c51_9_3 c58_10_3 c63_11_3 c68_12_3 c81_14_3 c95_16_3 => ?_) (fun t1_1_3 t8_2_3 c23_4_3 c32_6_3 c51_9_3 => ?_) (fun t1_1_3 t8_2_3 c23_4_3 c32_6_3 => ?_) (fun t1_1_3 t8_2_3 => ?_) (fun t1_1_3 => ?_))
      · have t1_1_3 : 0 ≤ ((s0 : Nat) : Int) ∧ ((s0 : Nat) : Int) ≤ 3 := t1_1_3
        have t8_2_3 : 0 ≤ ((b0 : Nat) : Int) ∧ ((b0 : Nat) : Int) ≤ 3 := t8_2_3
        have c23_4_3 : (h 145 s0) < 0 := c23_4_3
        show Aj γ mL_law d mc ms Post 1426 [(0, vK 0), (1, vA 0), (2, vA 123), (3, vI ((i : Nat) : Int))] [vI (-1000000011), vI (-1000000011)] (mk h τ)
        refine a_icmp_eq (tgt := 1668) dL_law_1426 (by decide) (fun _ => ?_) (fun c => absurd c (by decide))
        exact kE h N J (IV_up (by omega) hI)
      · have t1_1_3 : 0 ≤ ((s0 : Nat) : Int) ∧ ((s0 : Nat) : Int) ≤ 3 := t1_1_3
        have t8_2_3 : 0 ≤ ((b0 : Nat) : Int) ∧ ((b0 : Nat) : Int) ≤ 3 := t8_2_3
        have c23_4_3 : ¬ (h 145 s0) < 0 := c23_4_3
        have c32_6_3 : 0 ≤ (h 145 b0) := c32_6_3
        have c51_9_3 : (h 145 s0) = (h 145 b0) := c51_9_3
        have c58_10_3 : a2 < 0 := c58_10_3
        show Aj γ mL_law d mc ms Post 1426 [(0, vK 0), (1, vA 0), (2, vA 123), (3, vI ((i : Nat) : Int))] [vI (-1000000013), vI (-1000000011)] (mk h τ)
        refine a_icmp_eq (tgt := 1668) dL_law_1426 (by decide) (fun c => absurd c (by decide)) (fun _ => ?_)
        refine a_iconst dL_law_1429 ⟨by decide, by decide⟩ ?_
        exact a_zret dL_law_1430 rfl (by first | exact Or.inl rfl | exact Or.inr rfl | omega) (by exfalso; omega)
      · have t1_1_3 : 0 ≤ ((s0 : Nat) : Int) ∧ ((s0 : Nat) : Int) ≤ 3 := t1_1_3
        have t8_2_3 : 0 ≤ ((b0 : Nat) : Int) ∧ ((b0 : Nat) : Int) ≤ 3 := t8_2_3
        have c23_4_3 : ¬ (h 145 s0) < 0 := c23_4_3
        have c32_6_3 : 0 ≤ (h 145 b0) := c32_6_3
        have c51_9_3 : (h 145 s0) = (h 145 b0) := c51_9_3
        have c58_10_3 : ¬ a2 < 0 := c58_10_3
        have c63_11_3 : a4 < 0 := c63_11_3
        show Aj γ mL_law d mc ms Post 1426 [(0, vK 0), (1, vA 0), (2, vA 123), (3, vI ((i : Nat) : Int))] [vI (-1000000013), vI (-1000000011)] (mk h τ)
        refine a_icmp_eq (tgt := 1668) dL_law_1426 (by decide) (fun c => absurd c (by decide)) (fun _ => ?_)
        refine a_iconst dL_law_1429 ⟨by decide, by decide⟩ ?_
        exact a_zret dL_law_1430 rfl (by first | exact Or.inl rfl | exact Or.inr rfl | omega) (by exfalso; omega)
      · have t1_1_3 : 0 ≤ ((s0 : Nat) : Int) ∧ ((s0 : Nat) : Int) ≤ 3 := t1_1_3
        have t8_2_3 : 0 ≤ ((b0 : Nat) : Int) ∧ ((b0 : Nat) : Int) ≤ 3 := t8_2_3
        have c23_4_3 : ¬ (h 145 s0) < 0 := c23_4_3
        have c32_6_3 : 0 ≤ (h 145 b0) := c32_6_3
        have c51_9_3 : (h 145 s0) = (h 145 b0) := c51_9_3
        have c58_10_3 : ¬ a2 < 0 := c58_10_3
        have c63_11_3 : ¬ a4 < 0 := c63_11_3
        have c68_12_3 : a5 < 0 := c68_12_3
        show Aj γ mL_law d mc ms Post 1426 [(0, vK 0), (1, vA 0), (2, vA 123), (3, vI ((i : Nat) : Int))] [vI (-1000000013), vI (-1000000011)] (mk h τ)
        refine a_icmp_eq (tgt := 1668) dL_law_1426 (by decide) (fun c => absurd c (by decide)) (fun _ => ?_)
        refine a_iconst dL_law_1429 ⟨by decide, by decide⟩ ?_
        exact a_zret dL_law_1430 rfl (by first | exact Or.inl rfl | exact Or.inr rfl | omega) (by exfalso; omega)
      · have t1_1_3 : 0 ≤ ((s0 : Nat) : Int) ∧ ((s0 : Nat) : Int) ≤ 3 := t1_1_3
        have t8_2_3 : 0 ≤ ((b0 : Nat) : Int) ∧ ((b0 : Nat) : Int) ≤ 3 := t8_2_3
        have c23_4_3 : ¬ (h 145 s0) < 0 := c23_4_3
        have c32_6_3 : 0 ≤ (h 145 b0) := c32_6_3
        have c51_9_3 : (h 145 s0) = (h 145 b0) := c51_9_3
        have c58_10_3 : ¬ a2 < 0 := c58_10_3
        have c63_11_3 : ¬ a4 < 0 := c63_11_3
        have c68_12_3 : ¬ a5 < 0 := c68_12_3
        have c81_14_3 : ((h 146 s0) - a5) < a2 := c81_14_3
        show Aj γ mL_law d mc ms Post 1426 [(0, vK 0), (1, vA 0), (2, vA 123), (3, vI ((i : Nat) : Int))] [vI (-1000000013), vI (-1000000011)] (mk h τ)
        refine a_icmp_eq (tgt := 1668) dL_law_1426 (by decide) (fun c => absurd c (by decide)) (fun _ => ?_)
        refine a_iconst dL_law_1429 ⟨by decide, by decide⟩ ?_
        exact a_zret dL_law_1430 rfl (by first | exact Or.inl rfl | exact Or.inr rfl | omega) (by exfalso; omega)
      · have t1_1_3 : 0 ≤ ((s0 : Nat) : Int) ∧ ((s0 : Nat) : Int) ≤ 3 := t1_1_3
        have t8_2_3 : 0 ≤ ((b0 : Nat) : Int) ∧ ((b0 : Nat) : Int) ≤ 3 := t8_2_3
        have c23_4_3 : ¬ (h 145 s0) < 0 := c23_4_3
        have c32_6_3 : 0 ≤ (h 145 b0) := c32_6_3
        have c51_9_3 : (h 145 s0) = (h 145 b0) := c51_9_3
        have c58_10_3 : ¬ a2 < 0 := c58_10_3
        have c63_11_3 : ¬ a4 < 0 := c63_11_3
        have c68_12_3 : ¬ a5 < 0 := c68_12_3
        have c81_14_3 : ¬ ((h 146 s0) - a5) < a2 := c81_14_3
        have c95_16_3 : a4 ≤ ((h 146 b0) - a5) := c95_16_3
        show Aj γ mL_law d mc ms Post 1426 [(0, vK 0), (1, vA 0), (2, vA 123), (3, vI ((i : Nat) : Int))] [vI a5, vI (-1000000011)] (mk (upR (upR h 152 (cpy (h 147) (h 152) (Int.toNat ((24 * ((s0 : Nat) : Int)) + a2)) 0 (Int.toNat a5))) 147 (cpy (cpy (h 147) (h 152) (Int.toNat ((24 * ((s0 : Nat) : Int)) + a2)) 0 (Int.toNat a5)) (h 147) 0 (Int.toNat ((24 * ((b0 : Nat) : Int)) + a4)) (Int.toNat a5))) τ)
        refine a_icmp_eq (tgt := 1668) dL_law_1426 (by decide) (fun c1426_5 => ?_) (fun c1426_5 => ?_)
        · exfalso
          omega
        · refine a_iconst dL_law_1429 ⟨by decide, by decide⟩ ?_
          exact a_zret dL_law_1430 rfl (by first | exact Or.inl rfl | exact Or.inr rfl | omega) (by exfalso; omega)
      · have t1_1_3 : 0 ≤ ((s0 : Nat) : Int) ∧ ((s0 : Nat) : Int) ≤ 3 := t1_1_3
        have t8_2_3 : 0 ≤ ((b0 : Nat) : Int) ∧ ((b0 : Nat) : Int) ≤ 3 := t8_2_3
        have c23_4_3 : ¬ (h 145 s0) < 0 := c23_4_3
        have c32_6_3 : 0 ≤ (h 145 b0) := c32_6_3
        have c51_9_3 : (h 145 s0) = (h 145 b0) := c51_9_3
        have c58_10_3 : ¬ a2 < 0 := c58_10_3
        have c63_11_3 : ¬ a4 < 0 := c63_11_3
        have c68_12_3 : ¬ a5 < 0 := c68_12_3
        have c81_14_3 : ¬ ((h 146 s0) - a5) < a2 := c81_14_3
        have c95_16_3 : ¬ a4 ≤ ((h 146 b0) - a5) := c95_16_3
        show Aj γ mL_law d mc ms Post 1426 [(0, vK 0), (1, vA 0), (2, vA 123), (3, vI ((i : Nat) : Int))] [vI (-1000000013), vI (-1000000011)] (mk h τ)
        refine a_icmp_eq (tgt := 1668) dL_law_1426 (by decide) (fun c => absurd c (by decide)) (fun _ => ?_)
        refine a_iconst dL_law_1429 ⟨by decide, by decide⟩ ?_
        exact a_zret dL_law_1430 rfl (by first | exact Or.inl rfl | exact Or.inr rfl | omega) (by exfalso; omega)
      · have t1_1_3 : 0 ≤ ((s0 : Nat) : Int) ∧ ((s0 : Nat) : Int) ≤ 3 := t1_1_3
        have t8_2_3 : 0 ≤ ((b0 : Nat) : Int) ∧ ((b0 : Nat) : Int) ≤ 3 := t8_2_3
        have c23_4_3 : ¬ (h 145 s0) < 0 := c23_4_3
        have c32_6_3 : 0 ≤ (h 145 b0) := c32_6_3
        have c51_9_3 : ¬ (h 145 s0) = (h 145 b0) := c51_9_3
        show Aj γ mL_law d mc ms Post 1426 [(0, vK 0), (1, vA 0), (2, vA 123), (3, vI ((i : Nat) : Int))] [vI (-1000000012), vI (-1000000011)] (mk h τ)
        refine a_icmp_eq (tgt := 1668) dL_law_1426 (by decide) (fun c => absurd c (by decide)) (fun _ => ?_)
        refine a_iconst dL_law_1429 ⟨by decide, by decide⟩ ?_
        exact a_zret dL_law_1430 rfl (by first | exact Or.inl rfl | exact Or.inr rfl | omega) (by exfalso; omega)
      · have t1_1_3 : 0 ≤ ((s0 : Nat) : Int) ∧ ((s0 : Nat) : Int) ≤ 3 := t1_1_3
        have t8_2_3 : 0 ≤ ((b0 : Nat) : Int) ∧ ((b0 : Nat) : Int) ≤ 3 := t8_2_3
        have c23_4_3 : ¬ (h 145 s0) < 0 := c23_4_3
        have c32_6_3 : ¬ 0 ≤ (h 145 b0) := c32_6_3
        show Aj γ mL_law d mc ms Post 1426 [(0, vK 0), (1, vA 0), (2, vA 123), (3, vI ((i : Nat) : Int))] [vI (-1000000011), vI (-1000000011)] (mk h τ)
        refine a_icmp_eq (tgt := 1668) dL_law_1426 (by decide) (fun _ => ?_) (fun c => absurd c (by decide))
        exact kE h N J (IV_up (by omega) hI)
      · exfalso
        omega
      · exfalso
        omega
    · have t1_1_1 : 0 ≤ ((s0 : Nat) : Int) ∧ ((s0 : Nat) : Int) ≤ 3 := t1_1_1
      have t8_2_1 : 0 ≤ ((b0 : Nat) : Int) ∧ ((b0 : Nat) : Int) ≤ 3 := t8_2_1
      have c39_3_1 : ¬ (h 145 s0) = (-1) := c39_3_1
      have c48_4_1 : ¬ (h 145 b0) = (-1) := c48_4_1
      have c65_5_1 : (h 145 s0) = (h 145 b0) := c65_5_1
      have t76_6_1 : (0 ≤ a2 ∧ a2 ≤ (h 146 s0)) ∧ (0 ≤ a5 ∧ a5 ≤ (h 146 s0) - a2) := t76_6_1
      have t88_7_1 : (0 ≤ a4 ∧ a4 ≤ (h 146 b0)) ∧ (0 ≤ a5 ∧ a5 ≤ (h 146 b0) - a4) := t88_7_1
      show Aj γ mL_law d mc ms Post 1397 [(0, vK 0), (1, vA 0), (2, vA 123), (3, vI ((i : Nat) : Int))] [vI a5] (mk (upR h ((90 + 2 * b0) + 1) (cpy (h ((90 + 2 * s0) + 1)) (h ((90 + 2 * b0) + 1)) (Int.toNat a2) (Int.toNat a4) (Int.toNat a5))) τ)
      refine a_aload_n (j := 2) dL_law_1397 rfl rfl (Nat.le_of_ble_eq_true rfl) ?_
      refine a_aload_n (j := 0) dL_law_1398 rfl rfl (Nat.le_of_ble_eq_true rfl) ?_
      refine a_iload_n (j := 3) dL_law_1399 rfl rfl ?_
      refine a_iconst dL_law_1400 ⟨by decide, by decide⟩ ?_
      refine a_iadd (z := (((i : Nat) : Int) + 1)) dL_law_1401 (w_ok (by omega) (by omega)) ?_
      refine a_sld (i + 1) dL_law_1402 (by omega) (by omega) ?_
      rw [ha1]
      refine a_aload_n (j := 0) dL_law_1403 rfl rfl (Nat.le_of_ble_eq_true rfl) ?_
      refine a_iload_n (j := 3) dL_law_1404 rfl rfl ?_
      refine a_iconst dL_law_1405 ⟨by decide, by decide⟩ ?_
      refine a_iadd (z := (((i : Nat) : Int) + 2)) dL_law_1406 (w_ok (by omega) (by omega)) ?_
      refine a_sld (i + 2) dL_law_1407 (by omega) (by omega) ?_
      rw [ha2]
      refine a_aload_n (j := 0) dL_law_1408 rfl rfl (Nat.le_of_ble_eq_true rfl) ?_
      refine a_iload_n (j := 3) dL_law_1409 rfl rfl ?_
      refine a_iconst dL_law_1410 ⟨by decide, by decide⟩ ?_
      refine a_iadd (z := (((i : Nat) : Int) + 3)) dL_law_1411 (w_ok (by omega) (by omega)) ?_
      refine a_sld (i + 3) dL_law_1412 (by omega) (by omega) ?_
      rw [ha3]
      refine a_aload_n (j := 0) dL_law_1413 rfl rfl (Nat.le_of_ble_eq_true rfl) ?_
      refine a_iload_n (j := 3) dL_law_1414 rfl rfl ?_
      refine a_iconst dL_law_1415 ⟨by decide, by decide⟩ ?_
      refine a_iadd (z := (((i : Nat) : Int) + 4)) dL_law_1416 (w_ok (by omega) (by omega)) ?_
      refine a_sld (i + 4) dL_law_1417 (by omega) (by omega) ?_
      rw [ha4]
      refine a_aload_n (j := 0) dL_law_1418 rfl rfl (Nat.le_of_ble_eq_true rfl) ?_
      refine a_iload_n (j := 3) dL_law_1419 rfl rfl ?_
      refine a_iconst dL_law_1420 ⟨by decide, by decide⟩ ?_
      refine a_iadd (z := (((i : Nat) : Int) + 5)) dL_law_1421 (w_ok (by omega) (by omega)) ?_
      refine a_sld (i + 5) dL_law_1422 (by omega) (by omega) ?_
      rw [ha5]
      refine b_callV (d' := d - 1) (mc' := 0) (ms' := 0) (mc1 := mc) (ms1 := ms) (st := [vI a5]) (b := 123) [vI ((s0 : Nat) : Int), vI a2, vI ((b0 : Nat) : Int), vI a4, vI a5] dL_law_1423 mwX9_copy lkL_171 (by decide) rfl rc_X9 rfl (Nat.le_of_ble_eq_true rfl) (by omega) (by omega) (by omega) (c_X9_copy (v1 := (h 146 s0)) (v2 := (h 146 b0)) (v3 := (h 145 s0)) (v4 := (h 145 b0)) (f5 := (h 147)) (f6 := (h 152)) (by omega)  ((upR_ne (by omega)).trans rfl) ((upR_ne (by omega)).trans rfl) ((upR_ne (by omega)).trans rfl) ((upR_ne (by omega)).trans rfl) ((upR_rn (by omega)).trans rfl) ((upR_rn (by omega)).trans rfl) (show Im ((s0 : Nat) : Int) 4 (0 ≤ (h 146 s0) ∧ (h 146 s0) ≤ 24) from fun _ _ => (by omega)) (show Im ((b0 : Nat) : Int) 4 (0 ≤ (h 146 b0) ∧ (h 146 b0) ≤ 24) from fun _ _ => (by omega)) (fun t1_1_6 t8_2_6 c23_4_6 => ?_) (fun t1_1_6 t8_2_6 c23_4_6 c32_6_6 c51_9_6 c58_10_6 => ?_) (fun t1_1_6 t8_2_6 c23_4_6 c32_6_6 c51_9_6 c58_10_6 c63_11_6 => ?_) (fun t1_1_6 t8_2_6 c23_4_6 c32_6_6 c51_9_6 c58_10_6 c63_11_6 c68_12_6 => ?_) (fun t1_1_6 t8_2_6 c23_4_6 c32_6_6 c51_9_6 c58_10_6 c63_11_6 c68_12_6 c81_14_6 => ?_) (fun t1_1_6 t8_2_6 c23_4_6 c32_6_6 c51_9_6 c58_10_6 c63_11_6 c68_12_6 c81_14_6 c95_16_6 => ?_) (fun t1_1_6 t8_2_6 c23_4_6 c32_6_6 c51_9_6 c58_10_6 c63_11_6 c68_12_6 c81_14_6 c95_16_6 => ?_) (fun t1_1_6 t8_2_6 c23_4_6 c32_6_6 c51_9_6 => ?_) (fun t1_1_6 t8_2_6 c23_4_6 c32_6_6 => ?_) (fun t1_1_6 t8_2_6 => ?_) (fun t1_1_6 => ?_))
      · have t1_1_6 : 0 ≤ ((s0 : Nat) : Int) ∧ ((s0 : Nat) : Int) ≤ 3 := t1_1_6
        have t8_2_6 : 0 ≤ ((b0 : Nat) : Int) ∧ ((b0 : Nat) : Int) ≤ 3 := t8_2_6
        have c23_4_6 : (h 145 s0) < 0 := c23_4_6
        show Aj γ mL_law d mc ms Post 1426 [(0, vK 0), (1, vA 0), (2, vA 123), (3, vI ((i : Nat) : Int))] [vI (-1000000011), vI a5] (mk (upR h ((90 + 2 * b0) + 1) (cpy (h ((90 + 2 * s0) + 1)) (h ((90 + 2 * b0) + 1)) (Int.toNat a2) (Int.toNat a4) (Int.toNat a5))) τ)
        refine a_icmp_eq (tgt := 1668) dL_law_1426 (by decide) (fun c1426_8 => ?_) (fun c1426_8 => ?_)
        · exfalso
          omega
        · refine a_iconst dL_law_1429 ⟨by decide, by decide⟩ ?_
          exact a_zret dL_law_1430 rfl (by first | exact Or.inl rfl | exact Or.inr rfl | omega) (by exfalso; omega)
      · have t1_1_6 : 0 ≤ ((s0 : Nat) : Int) ∧ ((s0 : Nat) : Int) ≤ 3 := t1_1_6
        have t8_2_6 : 0 ≤ ((b0 : Nat) : Int) ∧ ((b0 : Nat) : Int) ≤ 3 := t8_2_6
        have c23_4_6 : ¬ (h 145 s0) < 0 := c23_4_6
        have c32_6_6 : 0 ≤ (h 145 b0) := c32_6_6
        have c51_9_6 : (h 145 s0) = (h 145 b0) := c51_9_6
        have c58_10_6 : a2 < 0 := c58_10_6
        show Aj γ mL_law d mc ms Post 1426 [(0, vK 0), (1, vA 0), (2, vA 123), (3, vI ((i : Nat) : Int))] [vI (-1000000013), vI a5] (mk (upR h ((90 + 2 * b0) + 1) (cpy (h ((90 + 2 * s0) + 1)) (h ((90 + 2 * b0) + 1)) (Int.toNat a2) (Int.toNat a4) (Int.toNat a5))) τ)
        refine a_icmp_eq (tgt := 1668) dL_law_1426 (by decide) (fun c1426_9 => ?_) (fun c1426_9 => ?_)
        · exfalso
          omega
        · refine a_iconst dL_law_1429 ⟨by decide, by decide⟩ ?_
          exact a_zret dL_law_1430 rfl (by first | exact Or.inl rfl | exact Or.inr rfl | omega) (by exfalso; omega)
      · have t1_1_6 : 0 ≤ ((s0 : Nat) : Int) ∧ ((s0 : Nat) : Int) ≤ 3 := t1_1_6
        have t8_2_6 : 0 ≤ ((b0 : Nat) : Int) ∧ ((b0 : Nat) : Int) ≤ 3 := t8_2_6
        have c23_4_6 : ¬ (h 145 s0) < 0 := c23_4_6
        have c32_6_6 : 0 ≤ (h 145 b0) := c32_6_6
        have c51_9_6 : (h 145 s0) = (h 145 b0) := c51_9_6
        have c58_10_6 : ¬ a2 < 0 := c58_10_6
        have c63_11_6 : a4 < 0 := c63_11_6
        show Aj γ mL_law d mc ms Post 1426 [(0, vK 0), (1, vA 0), (2, vA 123), (3, vI ((i : Nat) : Int))] [vI (-1000000013), vI a5] (mk (upR h ((90 + 2 * b0) + 1) (cpy (h ((90 + 2 * s0) + 1)) (h ((90 + 2 * b0) + 1)) (Int.toNat a2) (Int.toNat a4) (Int.toNat a5))) τ)
        refine a_icmp_eq (tgt := 1668) dL_law_1426 (by decide) (fun c1426_10 => ?_) (fun c1426_10 => ?_)
        · exfalso
          omega
        · refine a_iconst dL_law_1429 ⟨by decide, by decide⟩ ?_
          exact a_zret dL_law_1430 rfl (by first | exact Or.inl rfl | exact Or.inr rfl | omega) (by exfalso; omega)
      · have t1_1_6 : 0 ≤ ((s0 : Nat) : Int) ∧ ((s0 : Nat) : Int) ≤ 3 := t1_1_6
        have t8_2_6 : 0 ≤ ((b0 : Nat) : Int) ∧ ((b0 : Nat) : Int) ≤ 3 := t8_2_6
        have c23_4_6 : ¬ (h 145 s0) < 0 := c23_4_6
        have c32_6_6 : 0 ≤ (h 145 b0) := c32_6_6
        have c51_9_6 : (h 145 s0) = (h 145 b0) := c51_9_6
        have c58_10_6 : ¬ a2 < 0 := c58_10_6
        have c63_11_6 : ¬ a4 < 0 := c63_11_6
        have c68_12_6 : a5 < 0 := c68_12_6
        show Aj γ mL_law d mc ms Post 1426 [(0, vK 0), (1, vA 0), (2, vA 123), (3, vI ((i : Nat) : Int))] [vI (-1000000013), vI a5] (mk (upR h ((90 + 2 * b0) + 1) (cpy (h ((90 + 2 * s0) + 1)) (h ((90 + 2 * b0) + 1)) (Int.toNat a2) (Int.toNat a4) (Int.toNat a5))) τ)
        refine a_icmp_eq (tgt := 1668) dL_law_1426 (by decide) (fun c1426_11 => ?_) (fun c1426_11 => ?_)
        · exfalso
          omega
        · refine a_iconst dL_law_1429 ⟨by decide, by decide⟩ ?_
          exact a_zret dL_law_1430 rfl (by first | exact Or.inl rfl | exact Or.inr rfl | omega) (by exfalso; omega)
      · have t1_1_6 : 0 ≤ ((s0 : Nat) : Int) ∧ ((s0 : Nat) : Int) ≤ 3 := t1_1_6
        have t8_2_6 : 0 ≤ ((b0 : Nat) : Int) ∧ ((b0 : Nat) : Int) ≤ 3 := t8_2_6
        have c23_4_6 : ¬ (h 145 s0) < 0 := c23_4_6
        have c32_6_6 : 0 ≤ (h 145 b0) := c32_6_6
        have c51_9_6 : (h 145 s0) = (h 145 b0) := c51_9_6
        have c58_10_6 : ¬ a2 < 0 := c58_10_6
        have c63_11_6 : ¬ a4 < 0 := c63_11_6
        have c68_12_6 : ¬ a5 < 0 := c68_12_6
        have c81_14_6 : ((h 146 s0) - a5) < a2 := c81_14_6
        show Aj γ mL_law d mc ms Post 1426 [(0, vK 0), (1, vA 0), (2, vA 123), (3, vI ((i : Nat) : Int))] [vI (-1000000013), vI a5] (mk (upR h ((90 + 2 * b0) + 1) (cpy (h ((90 + 2 * s0) + 1)) (h ((90 + 2 * b0) + 1)) (Int.toNat a2) (Int.toNat a4) (Int.toNat a5))) τ)
        refine a_icmp_eq (tgt := 1668) dL_law_1426 (by decide) (fun c1426_12 => ?_) (fun c1426_12 => ?_)
        · exfalso
          omega
        · refine a_iconst dL_law_1429 ⟨by decide, by decide⟩ ?_
          exact a_zret dL_law_1430 rfl (by first | exact Or.inl rfl | exact Or.inr rfl | omega) (by exfalso; omega)
      · have t1_1_6 : 0 ≤ ((s0 : Nat) : Int) ∧ ((s0 : Nat) : Int) ≤ 3 := t1_1_6
        have t8_2_6 : 0 ≤ ((b0 : Nat) : Int) ∧ ((b0 : Nat) : Int) ≤ 3 := t8_2_6
        have c23_4_6 : ¬ (h 145 s0) < 0 := c23_4_6
        have c32_6_6 : 0 ≤ (h 145 b0) := c32_6_6
        have c51_9_6 : (h 145 s0) = (h 145 b0) := c51_9_6
        have c58_10_6 : ¬ a2 < 0 := c58_10_6
        have c63_11_6 : ¬ a4 < 0 := c63_11_6
        have c68_12_6 : ¬ a5 < 0 := c68_12_6
        have c81_14_6 : ¬ ((h 146 s0) - a5) < a2 := c81_14_6
        have c95_16_6 : a4 ≤ ((h 146 b0) - a5) := c95_16_6
        show Aj γ mL_law d mc ms Post 1426 [(0, vK 0), (1, vA 0), (2, vA 123), (3, vI ((i : Nat) : Int))] [vI a5, vI a5] (mk (upR (upR (upR h ((90 + 2 * b0) + 1) (cpy (h ((90 + 2 * s0) + 1)) (h ((90 + 2 * b0) + 1)) (Int.toNat a2) (Int.toNat a4) (Int.toNat a5))) 152 (cpy (h 147) (h 152) (Int.toNat ((24 * ((s0 : Nat) : Int)) + a2)) 0 (Int.toNat a5))) 147 (cpy (cpy (h 147) (h 152) (Int.toNat ((24 * ((s0 : Nat) : Int)) + a2)) 0 (Int.toNat a5)) (h 147) 0 (Int.toNat ((24 * ((b0 : Nat) : Int)) + a4)) (Int.toNat a5))) τ)
        refine a_icmp_eq (tgt := 1668) dL_law_1426 (by decide) (fun c1426_13 => ?_) (fun c1426_13 => ?_)
        · generalize hHH : (upR (upR (upR h ((90 + 2 * b0) + 1) (cpy (h ((90 + 2 * s0) + 1)) (h ((90 + 2 * b0) + 1)) (Int.toNat a2) (Int.toNat a4) (Int.toNat a5))) 152 (cpy (h 147) (h 152) (Int.toNat ((24 * ((s0 : Nat) : Int)) + a2)) 0 (Int.toNat a5))) 147 (cpy (cpy (h 147) (h 152) (Int.toNat ((24 * ((s0 : Nat) : Int)) + a2)) 0 (Int.toNat a5)) (h 147) 0 (Int.toNat ((24 * ((b0 : Nat) : Int)) + a4)) (Int.toNat a5))) = H
          have gR : ∀ c, (c < 90 ∨ 98 ≤ c) → c ≠ 147 → c ≠ 152 → H c = h c := fun c q0_ q1_ q2_ => by rw [← hHH]; exact ((upR_rn (by omega)).trans ((upR_rn (by omega)).trans ((upR_rn (by omega)).trans rfl)))
          have e3_ : ∀ c, 90 ≤ c → c < 98 → c ≠ 90 + 2 * b0 + 1 → H c = h c := fun c q0_ q1_ q2_ => by rw [← hHH]; exact ((upR_rn (by omega)).trans ((upR_rn (by omega)).trans ((upR_rn (by omega)).trans rfl)))
          have e1g : ∀ k : Nat, H ((90 + 2 * b0) + 1) k = ((cpy (h ((90 + 2 * s0) + 1)) (h ((90 + 2 * b0) + 1)) (Int.toNat a2) (Int.toNat a4) (Int.toNat a5)) k) := fun k => by rw [← hHH]; exact ((upR_ne (by omega)).trans ((upR_ne (by omega)).trans (upR_hit (by omega))))
          have e7g : ∀ k : Nat, H 147 k = ((cpy (cpy (h 147) (h 152) (Int.toNat ((24 * ((s0 : Nat) : Int)) + a2)) 0 (Int.toNat a5)) (h 147) 0 (Int.toNat ((24 * ((b0 : Nat) : Int)) + a4)) (Int.toNat a5)) k) := fun k => by rw [← hHH]; exact (upR_hit (by omega))
          have e1_ : ∀ k : Nat, k < 24 → H (90 + 2 * b0 + 1) k = if Int.toNat a4 ≤ k ∧ k < Int.toNat a4 + Int.toNat a5 then h (90 + 2 * s0 + 1) (Int.toNat a2 + (k - Int.toNat a4)) else h (90 + 2 * b0 + 1) k := fun k hk => e1g k
          have e7_ : ∀ k : Nat, H 147 k = if 24 * b0 + Int.toNat a4 ≤ k ∧ k < 24 * b0 + Int.toNat a4 + Int.toNat a5 then h 147 (24 * s0 + Int.toNat a2 + (k - (24 * b0 + Int.toNat a4))) else h 147 k := fun k => by
            rw [e7g]; unfold cpy
            by_cases c : 24 * b0 + Int.toNat a4 ≤ k ∧ k < 24 * b0 + Int.toNat a4 + Int.toNat a5
            · rw [if_pos c, if_pos (by omega), if_pos (by omega)]; congr 1; omega
            · rw [if_neg c, if_neg (by omega)]
          have t1_ : H 84 1 = h 84 1 := by rw [← hHH]; exact ((upR_ne (by omega)).trans ((upR_ne (by omega)).trans ((upR_ne (by omega)).trans rfl)))
          have t3_ : H 123 17 = h 123 17 := by rw [← hHH]; exact ((upR_ne (by omega)).trans ((upR_ne (by omega)).trans ((upR_ne (by omega)).trans rfl)))
          have w0_ : H 0 12 = h 0 12 := by rw [← hHH]; exact ((upR_ne (by omega)).trans ((upR_ne (by omega)).trans ((upR_ne (by omega)).trans rfl)))
          have w1_ : H 123 44 = h 123 44 := by rw [← hHH]; exact ((upR_ne (by omega)).trans ((upR_ne (by omega)).trans ((upR_ne (by omega)).trans rfl)))
          have g0 : ∀ k : Nat, k ≠ 12 → H 0 k = h 0 k := fun k q0_ => by rw [← hHH]; exact ((upR_ne (by omega)).trans ((upR_ne (by omega)).trans ((upR_ne (by omega)).trans rfl)))
          have gF : ∀ c, ((1 ≤ c ∧ c < 84) ∨ (124 ≤ c ∧ c < 137)) → H c = h c := fun c q0_ => by rw [← hHH]; exact ((upR_rn (by omega)).trans ((upR_rn (by omega)).trans ((upR_rn (by omega)).trans rfl)))
          have k3_ : H 123 3 = h 123 3 := by rw [← hHH]; exact ((upR_ne (by omega)).trans ((upR_ne (by omega)).trans ((upR_ne (by omega)).trans rfl)))
          have k4_ : H 123 4 = h 123 4 := by rw [← hHH]; exact ((upR_ne (by omega)).trans ((upR_ne (by omega)).trans ((upR_ne (by omega)).trans rfl)))
          have k9_ : H 123 9 = h 123 9 := by rw [← hHH]; exact ((upR_ne (by omega)).trans ((upR_ne (by omega)).trans ((upR_ne (by omega)).trans rfl)))
          have g3 : ∀ k, k = 3 ∨ k = 4 ∨ k = 9 → H 123 k = h 123 k := fun k hk => by rcases hk with rfl | rfl | rfl; exact k3_; exact k4_; exact k9_
          exact kE H N J (IV_up (by omega) (IV_o hI gF g0 g3 ⟨TPE_fr t1_ (gR 85 (by omega) (by decide) (by decide)) t3_ (gR 137 (by omega) (by decide) (by decide)) hO.1, SHE_c (a0 := s0) (b0 := b0) (p := Int.toNat a2) (q := Int.toNat a4) (m := Int.toNat a5) (by omega) (by omega) (by omega) (by omega) e1_ e3_ (gR 145 (by omega) (by decide) (by decide)) (gR 146 (by omega) (by decide) (by decide)) e7_ hO.2.1, SLE_fr (fun c h1 h2 => gR c (by omega) (by omega) (by omega)) (gR 148 (by omega) (by decide) (by decide)) (gR 149 (by omega) (by decide) (by decide)) (gR 150 (by omega) (by decide) (by decide)) (gR 151 (by omega) (by decide) (by decide)) hO.2.2.1, WTE_fr w0_ w1_ (gR 89 (by omega) (by decide) (by decide)) (gR 153 (by omega) (by decide) (by decide)) hO.2.2.2.1, CNE_fr (gR 138 (by omega) (by decide) (by decide)) (gR 139 (by omega) (by decide) (by decide)) hO.2.2.2.2⟩))
        · refine a_iconst dL_law_1429 ⟨by decide, by decide⟩ ?_
          exact a_zret dL_law_1430 rfl (by first | exact Or.inl rfl | exact Or.inr rfl | omega) (by exfalso; omega)
      · have t1_1_6 : 0 ≤ ((s0 : Nat) : Int) ∧ ((s0 : Nat) : Int) ≤ 3 := t1_1_6
        have t8_2_6 : 0 ≤ ((b0 : Nat) : Int) ∧ ((b0 : Nat) : Int) ≤ 3 := t8_2_6
        have c23_4_6 : ¬ (h 145 s0) < 0 := c23_4_6
        have c32_6_6 : 0 ≤ (h 145 b0) := c32_6_6
        have c51_9_6 : (h 145 s0) = (h 145 b0) := c51_9_6
        have c58_10_6 : ¬ a2 < 0 := c58_10_6
        have c63_11_6 : ¬ a4 < 0 := c63_11_6
        have c68_12_6 : ¬ a5 < 0 := c68_12_6
        have c81_14_6 : ¬ ((h 146 s0) - a5) < a2 := c81_14_6
        have c95_16_6 : ¬ a4 ≤ ((h 146 b0) - a5) := c95_16_6
        show Aj γ mL_law d mc ms Post 1426 [(0, vK 0), (1, vA 0), (2, vA 123), (3, vI ((i : Nat) : Int))] [vI (-1000000013), vI a5] (mk (upR h ((90 + 2 * b0) + 1) (cpy (h ((90 + 2 * s0) + 1)) (h ((90 + 2 * b0) + 1)) (Int.toNat a2) (Int.toNat a4) (Int.toNat a5))) τ)
        refine a_icmp_eq (tgt := 1668) dL_law_1426 (by decide) (fun c1426_14 => ?_) (fun c1426_14 => ?_)
        · exfalso
          omega
        · refine a_iconst dL_law_1429 ⟨by decide, by decide⟩ ?_
          exact a_zret dL_law_1430 rfl (by first | exact Or.inl rfl | exact Or.inr rfl | omega) (by exfalso; omega)
      · exfalso
        omega
      · have t1_1_6 : 0 ≤ ((s0 : Nat) : Int) ∧ ((s0 : Nat) : Int) ≤ 3 := t1_1_6
        have t8_2_6 : 0 ≤ ((b0 : Nat) : Int) ∧ ((b0 : Nat) : Int) ≤ 3 := t8_2_6
        have c23_4_6 : ¬ (h 145 s0) < 0 := c23_4_6
        have c32_6_6 : ¬ 0 ≤ (h 145 b0) := c32_6_6
        show Aj γ mL_law d mc ms Post 1426 [(0, vK 0), (1, vA 0), (2, vA 123), (3, vI ((i : Nat) : Int))] [vI (-1000000011), vI a5] (mk (upR h ((90 + 2 * b0) + 1) (cpy (h ((90 + 2 * s0) + 1)) (h ((90 + 2 * b0) + 1)) (Int.toNat a2) (Int.toNat a4) (Int.toNat a5))) τ)
        refine a_icmp_eq (tgt := 1668) dL_law_1426 (by decide) (fun c1426_15 => ?_) (fun c1426_15 => ?_)
        · exfalso
          omega
        · refine a_iconst dL_law_1429 ⟨by decide, by decide⟩ ?_
          exact a_zret dL_law_1430 rfl (by first | exact Or.inl rfl | exact Or.inr rfl | omega) (by exfalso; omega)
      · exfalso
        omega
      · exfalso
        omega
    · have t1_1_1 : 0 ≤ ((s0 : Nat) : Int) ∧ ((s0 : Nat) : Int) ≤ 3 := t1_1_1
      have t8_2_1 : 0 ≤ ((b0 : Nat) : Int) ∧ ((b0 : Nat) : Int) ≤ 3 := t8_2_1
      have c39_3_1 : ¬ (h 145 s0) = (-1) := c39_3_1
      have c48_4_1 : ¬ (h 145 b0) = (-1) := c48_4_1
      have c65_5_1 : (h 145 s0) = (h 145 b0) := c65_5_1
      have t76_6_1 : (0 ≤ a2 ∧ a2 ≤ (h 146 s0)) ∧ (0 ≤ a5 ∧ a5 ≤ (h 146 s0) - a2) := t76_6_1
      have t88_7_1 : ¬ ((0 ≤ a4 ∧ a4 ≤ (h 146 b0)) ∧ (0 ≤ a5 ∧ a5 ≤ (h 146 b0) - a4)) := t88_7_1
      show Aj γ mL_law d mc ms Post 1397 [(0, vK 0), (1, vA 0), (2, vA 123), (3, vI ((i : Nat) : Int))] [vI (-1000000013)] (mk h τ)
      refine a_aload_n (j := 2) dL_law_1397 rfl rfl (Nat.le_of_ble_eq_true rfl) ?_
      refine a_aload_n (j := 0) dL_law_1398 rfl rfl (Nat.le_of_ble_eq_true rfl) ?_
      refine a_iload_n (j := 3) dL_law_1399 rfl rfl ?_
      refine a_iconst dL_law_1400 ⟨by decide, by decide⟩ ?_
      refine a_iadd (z := (((i : Nat) : Int) + 1)) dL_law_1401 (w_ok (by omega) (by omega)) ?_
      refine a_sld (i + 1) dL_law_1402 (by omega) (by omega) ?_
      rw [ha1]
      refine a_aload_n (j := 0) dL_law_1403 rfl rfl (Nat.le_of_ble_eq_true rfl) ?_
      refine a_iload_n (j := 3) dL_law_1404 rfl rfl ?_
      refine a_iconst dL_law_1405 ⟨by decide, by decide⟩ ?_
      refine a_iadd (z := (((i : Nat) : Int) + 2)) dL_law_1406 (w_ok (by omega) (by omega)) ?_
      refine a_sld (i + 2) dL_law_1407 (by omega) (by omega) ?_
      rw [ha2]
      refine a_aload_n (j := 0) dL_law_1408 rfl rfl (Nat.le_of_ble_eq_true rfl) ?_
      refine a_iload_n (j := 3) dL_law_1409 rfl rfl ?_
      refine a_iconst dL_law_1410 ⟨by decide, by decide⟩ ?_
      refine a_iadd (z := (((i : Nat) : Int) + 3)) dL_law_1411 (w_ok (by omega) (by omega)) ?_
      refine a_sld (i + 3) dL_law_1412 (by omega) (by omega) ?_
      rw [ha3]
      refine a_aload_n (j := 0) dL_law_1413 rfl rfl (Nat.le_of_ble_eq_true rfl) ?_
      refine a_iload_n (j := 3) dL_law_1414 rfl rfl ?_
      refine a_iconst dL_law_1415 ⟨by decide, by decide⟩ ?_
      refine a_iadd (z := (((i : Nat) : Int) + 4)) dL_law_1416 (w_ok (by omega) (by omega)) ?_
      refine a_sld (i + 4) dL_law_1417 (by omega) (by omega) ?_
      rw [ha4]
      refine a_aload_n (j := 0) dL_law_1418 rfl rfl (Nat.le_of_ble_eq_true rfl) ?_
      refine a_iload_n (j := 3) dL_law_1419 rfl rfl ?_
      refine a_iconst dL_law_1420 ⟨by decide, by decide⟩ ?_
      refine a_iadd (z := (((i : Nat) : Int) + 5)) dL_law_1421 (w_ok (by omega) (by omega)) ?_
      refine a_sld (i + 5) dL_law_1422 (by omega) (by omega) ?_
      rw [ha5]
      refine b_callV (d' := d - 1) (mc' := 0) (ms' := 0) (mc1 := mc) (ms1 := ms) (st := [vI (-1000000013)]) (b := 123) [vI ((s0 : Nat) : Int), vI a2, vI ((b0 : Nat) : Int), vI a4, vI a5] dL_law_1423 mwX9_copy lkL_171 (by decide) rfl rc_X9 rfl (Nat.le_of_ble_eq_true rfl) (by omega) (by omega) (by omega) (c_X9_copy (v1 := (h 146 s0)) (v2 := (h 146 b0)) (v3 := (h 145 s0)) (v4 := (h 145 b0)) (f5 := (h 147)) (f6 := (h 152)) (by omega)  rfl rfl rfl rfl rfl rfl (show Im ((s0 : Nat) : Int) 4 (0 ≤ (h 146 s0) ∧ (h 146 s0) ≤ 24) from fun _ _ => (by omega)) (show Im ((b0 : Nat) : Int) 4 (0 ≤ (h 146 b0) ∧ (h 146 b0) ≤ 24) from fun _ _ => (by omega)) (fun t1_1_16 t8_2_16 c23_4_16 => ?_) (fun t1_1_16 t8_2_16 c23_4_16 c32_6_16 c51_9_16 c58_10_16 => ?_) (fun t1_1_16 t8_2_16 c23_4_16 c32_6_16 c51_9_16 c58_10_16 c63_11_16 => ?_) (fun t1_1_16 t8_2_16 c23_4_16 c32_6_16 c51_9_16 c58_10_16 c63_11_16 c68_12_16 => ?_) (fun t1_1_16 t8_2_16 c23_4_16 c32_6_16 c51_9_16 c58_10_16 c63_11_16 c68_12_16 c81_14_16 => ?_) (fun t1_1_16 t8_2_16 c23_4_16 c32_6_16 c51_9_16 c58_10_16 c63_11_16 c68_12_16 c81_14_16 c95_16_16 => ?_) (fun t1_1_16 t8_2_16 c23_4_16 c32_6_16 c51_9_16 c58_10_16 c63_11_16 c68_12_16 c81_14_16 c95_16_16 => ?_) (fun t1_1_16 t8_2_16 c23_4_16 c32_6_16 c51_9_16 => ?_) (fun t1_1_16 t8_2_16 c23_4_16 c32_6_16 => ?_) (fun t1_1_16 t8_2_16 => ?_) (fun t1_1_16 => ?_))
      · have t1_1_16 : 0 ≤ ((s0 : Nat) : Int) ∧ ((s0 : Nat) : Int) ≤ 3 := t1_1_16
        have t8_2_16 : 0 ≤ ((b0 : Nat) : Int) ∧ ((b0 : Nat) : Int) ≤ 3 := t8_2_16
        have c23_4_16 : (h 145 s0) < 0 := c23_4_16
        show Aj γ mL_law d mc ms Post 1426 [(0, vK 0), (1, vA 0), (2, vA 123), (3, vI ((i : Nat) : Int))] [vI (-1000000011), vI (-1000000013)] (mk h τ)
        refine a_icmp_eq (tgt := 1668) dL_law_1426 (by decide) (fun c => absurd c (by decide)) (fun _ => ?_)
        refine a_iconst dL_law_1429 ⟨by decide, by decide⟩ ?_
        exact a_zret dL_law_1430 rfl (by first | exact Or.inl rfl | exact Or.inr rfl | omega) (by exfalso; omega)
      · have t1_1_16 : 0 ≤ ((s0 : Nat) : Int) ∧ ((s0 : Nat) : Int) ≤ 3 := t1_1_16
        have t8_2_16 : 0 ≤ ((b0 : Nat) : Int) ∧ ((b0 : Nat) : Int) ≤ 3 := t8_2_16
        have c23_4_16 : ¬ (h 145 s0) < 0 := c23_4_16
        have c32_6_16 : 0 ≤ (h 145 b0) := c32_6_16
        have c51_9_16 : (h 145 s0) = (h 145 b0) := c51_9_16
        have c58_10_16 : a2 < 0 := c58_10_16
        show Aj γ mL_law d mc ms Post 1426 [(0, vK 0), (1, vA 0), (2, vA 123), (3, vI ((i : Nat) : Int))] [vI (-1000000013), vI (-1000000013)] (mk h τ)
        refine a_icmp_eq (tgt := 1668) dL_law_1426 (by decide) (fun _ => ?_) (fun c => absurd c (by decide))
        exact kE h N J (IV_up (by omega) hI)
      · have t1_1_16 : 0 ≤ ((s0 : Nat) : Int) ∧ ((s0 : Nat) : Int) ≤ 3 := t1_1_16
        have t8_2_16 : 0 ≤ ((b0 : Nat) : Int) ∧ ((b0 : Nat) : Int) ≤ 3 := t8_2_16
        have c23_4_16 : ¬ (h 145 s0) < 0 := c23_4_16
        have c32_6_16 : 0 ≤ (h 145 b0) := c32_6_16
        have c51_9_16 : (h 145 s0) = (h 145 b0) := c51_9_16
        have c58_10_16 : ¬ a2 < 0 := c58_10_16
        have c63_11_16 : a4 < 0 := c63_11_16
        show Aj γ mL_law d mc ms Post 1426 [(0, vK 0), (1, vA 0), (2, vA 123), (3, vI ((i : Nat) : Int))] [vI (-1000000013), vI (-1000000013)] (mk h τ)
        refine a_icmp_eq (tgt := 1668) dL_law_1426 (by decide) (fun _ => ?_) (fun c => absurd c (by decide))
        exact kE h N J (IV_up (by omega) hI)
      · have t1_1_16 : 0 ≤ ((s0 : Nat) : Int) ∧ ((s0 : Nat) : Int) ≤ 3 := t1_1_16
        have t8_2_16 : 0 ≤ ((b0 : Nat) : Int) ∧ ((b0 : Nat) : Int) ≤ 3 := t8_2_16
        have c23_4_16 : ¬ (h 145 s0) < 0 := c23_4_16
        have c32_6_16 : 0 ≤ (h 145 b0) := c32_6_16
        have c51_9_16 : (h 145 s0) = (h 145 b0) := c51_9_16
        have c58_10_16 : ¬ a2 < 0 := c58_10_16
        have c63_11_16 : ¬ a4 < 0 := c63_11_16
        have c68_12_16 : a5 < 0 := c68_12_16
        show Aj γ mL_law d mc ms Post 1426 [(0, vK 0), (1, vA 0), (2, vA 123), (3, vI ((i : Nat) : Int))] [vI (-1000000013), vI (-1000000013)] (mk h τ)
        refine a_icmp_eq (tgt := 1668) dL_law_1426 (by decide) (fun _ => ?_) (fun c => absurd c (by decide))
        exact kE h N J (IV_up (by omega) hI)
      · have t1_1_16 : 0 ≤ ((s0 : Nat) : Int) ∧ ((s0 : Nat) : Int) ≤ 3 := t1_1_16
        have t8_2_16 : 0 ≤ ((b0 : Nat) : Int) ∧ ((b0 : Nat) : Int) ≤ 3 := t8_2_16
        have c23_4_16 : ¬ (h 145 s0) < 0 := c23_4_16
        have c32_6_16 : 0 ≤ (h 145 b0) := c32_6_16
        have c51_9_16 : (h 145 s0) = (h 145 b0) := c51_9_16
        have c58_10_16 : ¬ a2 < 0 := c58_10_16
        have c63_11_16 : ¬ a4 < 0 := c63_11_16
        have c68_12_16 : ¬ a5 < 0 := c68_12_16
        have c81_14_16 : ((h 146 s0) - a5) < a2 := c81_14_16
        show Aj γ mL_law d mc ms Post 1426 [(0, vK 0), (1, vA 0), (2, vA 123), (3, vI ((i : Nat) : Int))] [vI (-1000000013), vI (-1000000013)] (mk h τ)
        refine a_icmp_eq (tgt := 1668) dL_law_1426 (by decide) (fun _ => ?_) (fun c => absurd c (by decide))
        exact kE h N J (IV_up (by omega) hI)
      · have t1_1_16 : 0 ≤ ((s0 : Nat) : Int) ∧ ((s0 : Nat) : Int) ≤ 3 := t1_1_16
        have t8_2_16 : 0 ≤ ((b0 : Nat) : Int) ∧ ((b0 : Nat) : Int) ≤ 3 := t8_2_16
        have c23_4_16 : ¬ (h 145 s0) < 0 := c23_4_16
        have c32_6_16 : 0 ≤ (h 145 b0) := c32_6_16
        have c51_9_16 : (h 145 s0) = (h 145 b0) := c51_9_16
        have c58_10_16 : ¬ a2 < 0 := c58_10_16
        have c63_11_16 : ¬ a4 < 0 := c63_11_16
        have c68_12_16 : ¬ a5 < 0 := c68_12_16
        have c81_14_16 : ¬ ((h 146 s0) - a5) < a2 := c81_14_16
        have c95_16_16 : a4 ≤ ((h 146 b0) - a5) := c95_16_16
        show Aj γ mL_law d mc ms Post 1426 [(0, vK 0), (1, vA 0), (2, vA 123), (3, vI ((i : Nat) : Int))] [vI a5, vI (-1000000013)] (mk (upR (upR h 152 (cpy (h 147) (h 152) (Int.toNat ((24 * ((s0 : Nat) : Int)) + a2)) 0 (Int.toNat a5))) 147 (cpy (cpy (h 147) (h 152) (Int.toNat ((24 * ((s0 : Nat) : Int)) + a2)) 0 (Int.toNat a5)) (h 147) 0 (Int.toNat ((24 * ((b0 : Nat) : Int)) + a4)) (Int.toNat a5))) τ)
        refine a_icmp_eq (tgt := 1668) dL_law_1426 (by decide) (fun c1426_18 => ?_) (fun c1426_18 => ?_)
        · exfalso
          omega
        · refine a_iconst dL_law_1429 ⟨by decide, by decide⟩ ?_
          exact a_zret dL_law_1430 rfl (by first | exact Or.inl rfl | exact Or.inr rfl | omega) (by exfalso; omega)
      · have t1_1_16 : 0 ≤ ((s0 : Nat) : Int) ∧ ((s0 : Nat) : Int) ≤ 3 := t1_1_16
        have t8_2_16 : 0 ≤ ((b0 : Nat) : Int) ∧ ((b0 : Nat) : Int) ≤ 3 := t8_2_16
        have c23_4_16 : ¬ (h 145 s0) < 0 := c23_4_16
        have c32_6_16 : 0 ≤ (h 145 b0) := c32_6_16
        have c51_9_16 : (h 145 s0) = (h 145 b0) := c51_9_16
        have c58_10_16 : ¬ a2 < 0 := c58_10_16
        have c63_11_16 : ¬ a4 < 0 := c63_11_16
        have c68_12_16 : ¬ a5 < 0 := c68_12_16
        have c81_14_16 : ¬ ((h 146 s0) - a5) < a2 := c81_14_16
        have c95_16_16 : ¬ a4 ≤ ((h 146 b0) - a5) := c95_16_16
        show Aj γ mL_law d mc ms Post 1426 [(0, vK 0), (1, vA 0), (2, vA 123), (3, vI ((i : Nat) : Int))] [vI (-1000000013), vI (-1000000013)] (mk h τ)
        refine a_icmp_eq (tgt := 1668) dL_law_1426 (by decide) (fun _ => ?_) (fun c => absurd c (by decide))
        exact kE h N J (IV_up (by omega) hI)
      · exfalso
        omega
      · have t1_1_16 : 0 ≤ ((s0 : Nat) : Int) ∧ ((s0 : Nat) : Int) ≤ 3 := t1_1_16
        have t8_2_16 : 0 ≤ ((b0 : Nat) : Int) ∧ ((b0 : Nat) : Int) ≤ 3 := t8_2_16
        have c23_4_16 : ¬ (h 145 s0) < 0 := c23_4_16
        have c32_6_16 : ¬ 0 ≤ (h 145 b0) := c32_6_16
        show Aj γ mL_law d mc ms Post 1426 [(0, vK 0), (1, vA 0), (2, vA 123), (3, vI ((i : Nat) : Int))] [vI (-1000000011), vI (-1000000013)] (mk h τ)
        refine a_icmp_eq (tgt := 1668) dL_law_1426 (by decide) (fun c => absurd c (by decide)) (fun _ => ?_)
        refine a_iconst dL_law_1429 ⟨by decide, by decide⟩ ?_
        exact a_zret dL_law_1430 rfl (by first | exact Or.inl rfl | exact Or.inr rfl | omega) (by exfalso; omega)
      · exfalso
        omega
      · exfalso
        omega
    · have t1_1_1 : 0 ≤ ((s0 : Nat) : Int) ∧ ((s0 : Nat) : Int) ≤ 3 := t1_1_1
      have t8_2_1 : 0 ≤ ((b0 : Nat) : Int) ∧ ((b0 : Nat) : Int) ≤ 3 := t8_2_1
      have c39_3_1 : ¬ (h 145 s0) = (-1) := c39_3_1
      have c48_4_1 : ¬ (h 145 b0) = (-1) := c48_4_1
      have c65_5_1 : (h 145 s0) = (h 145 b0) := c65_5_1
      have t76_6_1 : ¬ ((0 ≤ a2 ∧ a2 ≤ (h 146 s0)) ∧ (0 ≤ a5 ∧ a5 ≤ (h 146 s0) - a2)) := t76_6_1
      show Aj γ mL_law d mc ms Post 1397 [(0, vK 0), (1, vA 0), (2, vA 123), (3, vI ((i : Nat) : Int))] [vI (-1000000013)] (mk h τ)
      refine a_aload_n (j := 2) dL_law_1397 rfl rfl (Nat.le_of_ble_eq_true rfl) ?_
      refine a_aload_n (j := 0) dL_law_1398 rfl rfl (Nat.le_of_ble_eq_true rfl) ?_
      refine a_iload_n (j := 3) dL_law_1399 rfl rfl ?_
      refine a_iconst dL_law_1400 ⟨by decide, by decide⟩ ?_
      refine a_iadd (z := (((i : Nat) : Int) + 1)) dL_law_1401 (w_ok (by omega) (by omega)) ?_
      refine a_sld (i + 1) dL_law_1402 (by omega) (by omega) ?_
      rw [ha1]
      refine a_aload_n (j := 0) dL_law_1403 rfl rfl (Nat.le_of_ble_eq_true rfl) ?_
      refine a_iload_n (j := 3) dL_law_1404 rfl rfl ?_
      refine a_iconst dL_law_1405 ⟨by decide, by decide⟩ ?_
      refine a_iadd (z := (((i : Nat) : Int) + 2)) dL_law_1406 (w_ok (by omega) (by omega)) ?_
      refine a_sld (i + 2) dL_law_1407 (by omega) (by omega) ?_
      rw [ha2]
      refine a_aload_n (j := 0) dL_law_1408 rfl rfl (Nat.le_of_ble_eq_true rfl) ?_
      refine a_iload_n (j := 3) dL_law_1409 rfl rfl ?_
      refine a_iconst dL_law_1410 ⟨by decide, by decide⟩ ?_
      refine a_iadd (z := (((i : Nat) : Int) + 3)) dL_law_1411 (w_ok (by omega) (by omega)) ?_
      refine a_sld (i + 3) dL_law_1412 (by omega) (by omega) ?_
      rw [ha3]
      refine a_aload_n (j := 0) dL_law_1413 rfl rfl (Nat.le_of_ble_eq_true rfl) ?_
      refine a_iload_n (j := 3) dL_law_1414 rfl rfl ?_
      refine a_iconst dL_law_1415 ⟨by decide, by decide⟩ ?_
      refine a_iadd (z := (((i : Nat) : Int) + 4)) dL_law_1416 (w_ok (by omega) (by omega)) ?_
      refine a_sld (i + 4) dL_law_1417 (by omega) (by omega) ?_
      rw [ha4]
      refine a_aload_n (j := 0) dL_law_1418 rfl rfl (Nat.le_of_ble_eq_true rfl) ?_
      refine a_iload_n (j := 3) dL_law_1419 rfl rfl ?_
      refine a_iconst dL_law_1420 ⟨by decide, by decide⟩ ?_
      refine a_iadd (z := (((i : Nat) : Int) + 5)) dL_law_1421 (w_ok (by omega) (by omega)) ?_
      refine a_sld (i + 5) dL_law_1422 (by omega) (by omega) ?_
      rw [ha5]
      refine b_callV (d' := d - 1) (mc' := 0) (ms' := 0) (mc1 := mc) (ms1 := ms) (st := [vI (-1000000013)]) (b := 123) [vI ((s0 : Nat) : Int), vI a2, vI ((b0 : Nat) : Int), vI a4, vI a5] dL_law_1423 mwX9_copy lkL_171 (by decide) rfl rc_X9 rfl (Nat.le_of_ble_eq_true rfl) (by omega) (by omega) (by omega) (c_X9_copy (v1 := (h 146 s0)) (v2 := (h 146 b0)) (v3 := (h 145 s0)) (v4 := (h 145 b0)) (f5 := (h 147)) (f6 := (h 152)) (by omega)  rfl rfl rfl rfl rfl rfl (show Im ((s0 : Nat) : Int) 4 (0 ≤ (h 146 s0) ∧ (h 146 s0) ≤ 24) from fun _ _ => (by omega)) (show Im ((b0 : Nat) : Int) 4 (0 ≤ (h 146 b0) ∧ (h 146 b0) ≤ 24) from fun _ _ => (by omega)) (fun t1_1_19 t8_2_19 c23_4_19 => ?_) (fun t1_1_19 t8_2_19 c23_4_19 c32_6_19 c51_9_19 c58_10_19 => ?_) (fun t1_1_19 t8_2_19 c23_4_19 c32_6_19 c51_9_19 c58_10_19 c63_11_19 => ?_) (fun t1_1_19 t8_2_19 c23_4_19 c32_6_19 c51_9_19 c58_10_19 c63_11_19 c68_12_19 => ?_) (fun t1_1_19 t8_2_19 c23_4_19 c32_6_19 c51_9_19 c58_10_19 c63_11_19 c68_12_19 c81_14_19 => ?_) (fun t1_1_19 t8_2_19 c23_4_19 c32_6_19 c51_9_19 c58_10_19 c63_11_19 c68_12_19 c81_14_19 c95_16_19 => ?_) (fun t1_1_19 t8_2_19 c23_4_19 c32_6_19 c51_9_19 c58_10_19 c63_11_19 c68_12_19 c81_14_19 c95_16_19 => ?_) (fun t1_1_19 t8_2_19 c23_4_19 c32_6_19 c51_9_19 => ?_) (fun t1_1_19 t8_2_19 c23_4_19 c32_6_19 => ?_) (fun t1_1_19 t8_2_19 => ?_) (fun t1_1_19 => ?_))
      · have t1_1_19 : 0 ≤ ((s0 : Nat) : Int) ∧ ((s0 : Nat) : Int) ≤ 3 := t1_1_19
        have t8_2_19 : 0 ≤ ((b0 : Nat) : Int) ∧ ((b0 : Nat) : Int) ≤ 3 := t8_2_19
        have c23_4_19 : (h 145 s0) < 0 := c23_4_19
        show Aj γ mL_law d mc ms Post 1426 [(0, vK 0), (1, vA 0), (2, vA 123), (3, vI ((i : Nat) : Int))] [vI (-1000000011), vI (-1000000013)] (mk h τ)
        refine a_icmp_eq (tgt := 1668) dL_law_1426 (by decide) (fun c => absurd c (by decide)) (fun _ => ?_)
        refine a_iconst dL_law_1429 ⟨by decide, by decide⟩ ?_
        exact a_zret dL_law_1430 rfl (by first | exact Or.inl rfl | exact Or.inr rfl | omega) (by exfalso; omega)
      · have t1_1_19 : 0 ≤ ((s0 : Nat) : Int) ∧ ((s0 : Nat) : Int) ≤ 3 := t1_1_19
        have t8_2_19 : 0 ≤ ((b0 : Nat) : Int) ∧ ((b0 : Nat) : Int) ≤ 3 := t8_2_19
        have c23_4_19 : ¬ (h 145 s0) < 0 := c23_4_19
        have c32_6_19 : 0 ≤ (h 145 b0) := c32_6_19
        have c51_9_19 : (h 145 s0) = (h 145 b0) := c51_9_19
        have c58_10_19 : a2 < 0 := c58_10_19
        show Aj γ mL_law d mc ms Post 1426 [(0, vK 0), (1, vA 0), (2, vA 123), (3, vI ((i : Nat) : Int))] [vI (-1000000013), vI (-1000000013)] (mk h τ)
        refine a_icmp_eq (tgt := 1668) dL_law_1426 (by decide) (fun _ => ?_) (fun c => absurd c (by decide))
        exact kE h N J (IV_up (by omega) hI)
      · have t1_1_19 : 0 ≤ ((s0 : Nat) : Int) ∧ ((s0 : Nat) : Int) ≤ 3 := t1_1_19
        have t8_2_19 : 0 ≤ ((b0 : Nat) : Int) ∧ ((b0 : Nat) : Int) ≤ 3 := t8_2_19
        have c23_4_19 : ¬ (h 145 s0) < 0 := c23_4_19
        have c32_6_19 : 0 ≤ (h 145 b0) := c32_6_19
        have c51_9_19 : (h 145 s0) = (h 145 b0) := c51_9_19
        have c58_10_19 : ¬ a2 < 0 := c58_10_19
        have c63_11_19 : a4 < 0 := c63_11_19
        show Aj γ mL_law d mc ms Post 1426 [(0, vK 0), (1, vA 0), (2, vA 123), (3, vI ((i : Nat) : Int))] [vI (-1000000013), vI (-1000000013)] (mk h τ)
        refine a_icmp_eq (tgt := 1668) dL_law_1426 (by decide) (fun _ => ?_) (fun c => absurd c (by decide))
        exact kE h N J (IV_up (by omega) hI)
      · have t1_1_19 : 0 ≤ ((s0 : Nat) : Int) ∧ ((s0 : Nat) : Int) ≤ 3 := t1_1_19
        have t8_2_19 : 0 ≤ ((b0 : Nat) : Int) ∧ ((b0 : Nat) : Int) ≤ 3 := t8_2_19
        have c23_4_19 : ¬ (h 145 s0) < 0 := c23_4_19
        have c32_6_19 : 0 ≤ (h 145 b0) := c32_6_19
        have c51_9_19 : (h 145 s0) = (h 145 b0) := c51_9_19
        have c58_10_19 : ¬ a2 < 0 := c58_10_19
        have c63_11_19 : ¬ a4 < 0 := c63_11_19
        have c68_12_19 : a5 < 0 := c68_12_19
        show Aj γ mL_law d mc ms Post 1426 [(0, vK 0), (1, vA 0), (2, vA 123), (3, vI ((i : Nat) : Int))] [vI (-1000000013), vI (-1000000013)] (mk h τ)
        refine a_icmp_eq (tgt := 1668) dL_law_1426 (by decide) (fun _ => ?_) (fun c => absurd c (by decide))
        exact kE h N J (IV_up (by omega) hI)
      · have t1_1_19 : 0 ≤ ((s0 : Nat) : Int) ∧ ((s0 : Nat) : Int) ≤ 3 := t1_1_19
        have t8_2_19 : 0 ≤ ((b0 : Nat) : Int) ∧ ((b0 : Nat) : Int) ≤ 3 := t8_2_19
        have c23_4_19 : ¬ (h 145 s0) < 0 := c23_4_19
        have c32_6_19 : 0 ≤ (h 145 b0) := c32_6_19
        have c51_9_19 : (h 145 s0) = (h 145 b0) := c51_9_19
        have c58_10_19 : ¬ a2 < 0 := c58_10_19
        have c63_11_19 : ¬ a4 < 0 := c63_11_19
        have c68_12_19 : ¬ a5 < 0 := c68_12_19
        have c81_14_19 : ((h 146 s0) - a5) < a2 := c81_14_19
        show Aj γ mL_law d mc ms Post 1426 [(0, vK 0), (1, vA 0), (2, vA 123), (3, vI ((i : Nat) : Int))] [vI (-1000000013), vI (-1000000013)] (mk h τ)
        refine a_icmp_eq (tgt := 1668) dL_law_1426 (by decide) (fun _ => ?_) (fun c => absurd c (by decide))
        exact kE h N J (IV_up (by omega) hI)
      · have t1_1_19 : 0 ≤ ((s0 : Nat) : Int) ∧ ((s0 : Nat) : Int) ≤ 3 := t1_1_19
        have t8_2_19 : 0 ≤ ((b0 : Nat) : Int) ∧ ((b0 : Nat) : Int) ≤ 3 := t8_2_19
        have c23_4_19 : ¬ (h 145 s0) < 0 := c23_4_19
        have c32_6_19 : 0 ≤ (h 145 b0) := c32_6_19
        have c51_9_19 : (h 145 s0) = (h 145 b0) := c51_9_19
        have c58_10_19 : ¬ a2 < 0 := c58_10_19
        have c63_11_19 : ¬ a4 < 0 := c63_11_19
        have c68_12_19 : ¬ a5 < 0 := c68_12_19
        have c81_14_19 : ¬ ((h 146 s0) - a5) < a2 := c81_14_19
        have c95_16_19 : a4 ≤ ((h 146 b0) - a5) := c95_16_19
        show Aj γ mL_law d mc ms Post 1426 [(0, vK 0), (1, vA 0), (2, vA 123), (3, vI ((i : Nat) : Int))] [vI a5, vI (-1000000013)] (mk (upR (upR h 152 (cpy (h 147) (h 152) (Int.toNat ((24 * ((s0 : Nat) : Int)) + a2)) 0 (Int.toNat a5))) 147 (cpy (cpy (h 147) (h 152) (Int.toNat ((24 * ((s0 : Nat) : Int)) + a2)) 0 (Int.toNat a5)) (h 147) 0 (Int.toNat ((24 * ((b0 : Nat) : Int)) + a4)) (Int.toNat a5))) τ)
        refine a_icmp_eq (tgt := 1668) dL_law_1426 (by decide) (fun c1426_21 => ?_) (fun c1426_21 => ?_)
        · exfalso
          omega
        · refine a_iconst dL_law_1429 ⟨by decide, by decide⟩ ?_
          exact a_zret dL_law_1430 rfl (by first | exact Or.inl rfl | exact Or.inr rfl | omega) (by exfalso; omega)
      · have t1_1_19 : 0 ≤ ((s0 : Nat) : Int) ∧ ((s0 : Nat) : Int) ≤ 3 := t1_1_19
        have t8_2_19 : 0 ≤ ((b0 : Nat) : Int) ∧ ((b0 : Nat) : Int) ≤ 3 := t8_2_19
        have c23_4_19 : ¬ (h 145 s0) < 0 := c23_4_19
        have c32_6_19 : 0 ≤ (h 145 b0) := c32_6_19
        have c51_9_19 : (h 145 s0) = (h 145 b0) := c51_9_19
        have c58_10_19 : ¬ a2 < 0 := c58_10_19
        have c63_11_19 : ¬ a4 < 0 := c63_11_19
        have c68_12_19 : ¬ a5 < 0 := c68_12_19
        have c81_14_19 : ¬ ((h 146 s0) - a5) < a2 := c81_14_19
        have c95_16_19 : ¬ a4 ≤ ((h 146 b0) - a5) := c95_16_19
        show Aj γ mL_law d mc ms Post 1426 [(0, vK 0), (1, vA 0), (2, vA 123), (3, vI ((i : Nat) : Int))] [vI (-1000000013), vI (-1000000013)] (mk h τ)
        refine a_icmp_eq (tgt := 1668) dL_law_1426 (by decide) (fun _ => ?_) (fun c => absurd c (by decide))
        exact kE h N J (IV_up (by omega) hI)
      · exfalso
        omega
      · have t1_1_19 : 0 ≤ ((s0 : Nat) : Int) ∧ ((s0 : Nat) : Int) ≤ 3 := t1_1_19
        have t8_2_19 : 0 ≤ ((b0 : Nat) : Int) ∧ ((b0 : Nat) : Int) ≤ 3 := t8_2_19
        have c23_4_19 : ¬ (h 145 s0) < 0 := c23_4_19
        have c32_6_19 : ¬ 0 ≤ (h 145 b0) := c32_6_19
        show Aj γ mL_law d mc ms Post 1426 [(0, vK 0), (1, vA 0), (2, vA 123), (3, vI ((i : Nat) : Int))] [vI (-1000000011), vI (-1000000013)] (mk h τ)
        refine a_icmp_eq (tgt := 1668) dL_law_1426 (by decide) (fun c => absurd c (by decide)) (fun _ => ?_)
        refine a_iconst dL_law_1429 ⟨by decide, by decide⟩ ?_
        exact a_zret dL_law_1430 rfl (by first | exact Or.inl rfl | exact Or.inr rfl | omega) (by exfalso; omega)
      · exfalso
        omega
      · exfalso
        omega
    · have t1_1_1 : 0 ≤ ((s0 : Nat) : Int) ∧ ((s0 : Nat) : Int) ≤ 3 := t1_1_1
      have t8_2_1 : 0 ≤ ((b0 : Nat) : Int) ∧ ((b0 : Nat) : Int) ≤ 3 := t8_2_1
      have c39_3_1 : ¬ (h 145 s0) = (-1) := c39_3_1
      have c48_4_1 : ¬ (h 145 b0) = (-1) := c48_4_1
      have c65_5_1 : ¬ (h 145 s0) = (h 145 b0) := c65_5_1
      show Aj γ mL_law d mc ms Post 1397 [(0, vK 0), (1, vA 0), (2, vA 123), (3, vI ((i : Nat) : Int))] [vI (-1000000012)] (mk h τ)
      refine a_aload_n (j := 2) dL_law_1397 rfl rfl (Nat.le_of_ble_eq_true rfl) ?_
      refine a_aload_n (j := 0) dL_law_1398 rfl rfl (Nat.le_of_ble_eq_true rfl) ?_
      refine a_iload_n (j := 3) dL_law_1399 rfl rfl ?_
      refine a_iconst dL_law_1400 ⟨by decide, by decide⟩ ?_
      refine a_iadd (z := (((i : Nat) : Int) + 1)) dL_law_1401 (w_ok (by omega) (by omega)) ?_
      refine a_sld (i + 1) dL_law_1402 (by omega) (by omega) ?_
      rw [ha1]
      refine a_aload_n (j := 0) dL_law_1403 rfl rfl (Nat.le_of_ble_eq_true rfl) ?_
      refine a_iload_n (j := 3) dL_law_1404 rfl rfl ?_
      refine a_iconst dL_law_1405 ⟨by decide, by decide⟩ ?_
      refine a_iadd (z := (((i : Nat) : Int) + 2)) dL_law_1406 (w_ok (by omega) (by omega)) ?_
      refine a_sld (i + 2) dL_law_1407 (by omega) (by omega) ?_
      rw [ha2]
      refine a_aload_n (j := 0) dL_law_1408 rfl rfl (Nat.le_of_ble_eq_true rfl) ?_
      refine a_iload_n (j := 3) dL_law_1409 rfl rfl ?_
      refine a_iconst dL_law_1410 ⟨by decide, by decide⟩ ?_
      refine a_iadd (z := (((i : Nat) : Int) + 3)) dL_law_1411 (w_ok (by omega) (by omega)) ?_
      refine a_sld (i + 3) dL_law_1412 (by omega) (by omega) ?_
      rw [ha3]
      refine a_aload_n (j := 0) dL_law_1413 rfl rfl (Nat.le_of_ble_eq_true rfl) ?_
      refine a_iload_n (j := 3) dL_law_1414 rfl rfl ?_
      refine a_iconst dL_law_1415 ⟨by decide, by decide⟩ ?_
      refine a_iadd (z := (((i : Nat) : Int) + 4)) dL_law_1416 (w_ok (by omega) (by omega)) ?_
      refine a_sld (i + 4) dL_law_1417 (by omega) (by omega) ?_
      rw [ha4]
      refine a_aload_n (j := 0) dL_law_1418 rfl rfl (Nat.le_of_ble_eq_true rfl) ?_
      refine a_iload_n (j := 3) dL_law_1419 rfl rfl ?_
      refine a_iconst dL_law_1420 ⟨by decide, by decide⟩ ?_
      refine a_iadd (z := (((i : Nat) : Int) + 5)) dL_law_1421 (w_ok (by omega) (by omega)) ?_
      refine a_sld (i + 5) dL_law_1422 (by omega) (by omega) ?_
      rw [ha5]
      refine b_callV (d' := d - 1) (mc' := 0) (ms' := 0) (mc1 := mc) (ms1 := ms) (st := [vI (-1000000012)]) (b := 123) [vI ((s0 : Nat) : Int), vI a2, vI ((b0 : Nat) : Int), vI a4, vI a5] dL_law_1423 mwX9_copy lkL_171 (by decide) rfl rc_X9 rfl (Nat.le_of_ble_eq_true rfl) (by omega) (by omega) (by omega) (c_X9_copy (v1 := (h 146 s0)) (v2 := (h 146 b0)) (v3 := (h 145 s0)) (v4 := (h 145 b0)) (f5 := (h 147)) (f6 := (h 152)) (by omega)  rfl rfl rfl rfl rfl rfl (show Im ((s0 : Nat) : Int) 4 (0 ≤ (h 146 s0) ∧ (h 146 s0) ≤ 24) from fun _ _ => (by omega)) (show Im ((b0 : Nat) : Int) 4 (0 ≤ (h 146 b0) ∧ (h 146 b0) ≤ 24) from fun _ _ => (by omega)) (fun t1_1_22 t8_2_22 c23_4_22 => ?_) (fun t1_1_22 t8_2_22 c23_4_22 c32_6_22 c51_9_22 c58_10_22 => ?_) (fun t1_1_22 t8_2_22 c23_4_22 c32_6_22 c51_9_22 c58_10_22 c63_11_22 => ?_) (fun t1_1_22 t8_2_22 c23_4_22 c32_6_22 c51_9_22 c58_10_22 c63_11_22 c68_12_22 => ?_) (fun t1_1_22 t8_2_22 c23_4_22 c32_6_22 c51_9_22 c58_10_22 c63_11_22 c68_12_22 c81_14_22 => ?_) (fun t1_1_22 t8_2_22 c23_4_22 c32_6_22 c51_9_22 c58_10_22 c63_11_22 c68_12_22 c81_14_22 c95_16_22 => ?_) (fun t1_1_22 t8_2_22 c23_4_22 c32_6_22 c51_9_22 c58_10_22 c63_11_22 c68_12_22 c81_14_22 c95_16_22 => ?_) (fun t1_1_22 t8_2_22 c23_4_22 c32_6_22 c51_9_22 => ?_) (fun t1_1_22 t8_2_22 c23_4_22 c32_6_22 => ?_) (fun t1_1_22 t8_2_22 => ?_) (fun t1_1_22 => ?_))
      · have t1_1_22 : 0 ≤ ((s0 : Nat) : Int) ∧ ((s0 : Nat) : Int) ≤ 3 := t1_1_22
        have t8_2_22 : 0 ≤ ((b0 : Nat) : Int) ∧ ((b0 : Nat) : Int) ≤ 3 := t8_2_22
        have c23_4_22 : (h 145 s0) < 0 := c23_4_22
        show Aj γ mL_law d mc ms Post 1426 [(0, vK 0), (1, vA 0), (2, vA 123), (3, vI ((i : Nat) : Int))] [vI (-1000000011), vI (-1000000012)] (mk h τ)
        refine a_icmp_eq (tgt := 1668) dL_law_1426 (by decide) (fun c => absurd c (by decide)) (fun _ => ?_)
        refine a_iconst dL_law_1429 ⟨by decide, by decide⟩ ?_
        exact a_zret dL_law_1430 rfl (by first | exact Or.inl rfl | exact Or.inr rfl | omega) (by exfalso; omega)
      · exfalso
        omega
      · exfalso
        omega
      · exfalso
        omega
      · exfalso
        omega
      · exfalso
        omega
      · exfalso
        omega
      · have t1_1_22 : 0 ≤ ((s0 : Nat) : Int) ∧ ((s0 : Nat) : Int) ≤ 3 := t1_1_22
        have t8_2_22 : 0 ≤ ((b0 : Nat) : Int) ∧ ((b0 : Nat) : Int) ≤ 3 := t8_2_22
        have c23_4_22 : ¬ (h 145 s0) < 0 := c23_4_22
        have c32_6_22 : 0 ≤ (h 145 b0) := c32_6_22
        have c51_9_22 : ¬ (h 145 s0) = (h 145 b0) := c51_9_22
        show Aj γ mL_law d mc ms Post 1426 [(0, vK 0), (1, vA 0), (2, vA 123), (3, vI ((i : Nat) : Int))] [vI (-1000000012), vI (-1000000012)] (mk h τ)
        refine a_icmp_eq (tgt := 1668) dL_law_1426 (by decide) (fun _ => ?_) (fun c => absurd c (by decide))
        exact kE h N J (IV_up (by omega) hI)
      · have t1_1_22 : 0 ≤ ((s0 : Nat) : Int) ∧ ((s0 : Nat) : Int) ≤ 3 := t1_1_22
        have t8_2_22 : 0 ≤ ((b0 : Nat) : Int) ∧ ((b0 : Nat) : Int) ≤ 3 := t8_2_22
        have c23_4_22 : ¬ (h 145 s0) < 0 := c23_4_22
        have c32_6_22 : ¬ 0 ≤ (h 145 b0) := c32_6_22
        show Aj γ mL_law d mc ms Post 1426 [(0, vK 0), (1, vA 0), (2, vA 123), (3, vI ((i : Nat) : Int))] [vI (-1000000011), vI (-1000000012)] (mk h τ)
        refine a_icmp_eq (tgt := 1668) dL_law_1426 (by decide) (fun c => absurd c (by decide)) (fun _ => ?_)
        refine a_iconst dL_law_1429 ⟨by decide, by decide⟩ ?_
        exact a_zret dL_law_1430 rfl (by first | exact Or.inl rfl | exact Or.inr rfl | omega) (by exfalso; omega)
      · exfalso
        omega
      · exfalso
        omega
    · have t1_1_1 : 0 ≤ ((s0 : Nat) : Int) ∧ ((s0 : Nat) : Int) ≤ 3 := t1_1_1
      have t8_2_1 : 0 ≤ ((b0 : Nat) : Int) ∧ ((b0 : Nat) : Int) ≤ 3 := t8_2_1
      have c39_3_1 : ¬ (h 145 s0) = (-1) := c39_3_1
      have c48_4_1 : (h 145 b0) = (-1) := c48_4_1
      show Aj γ mL_law d mc ms Post 1397 [(0, vK 0), (1, vA 0), (2, vA 123), (3, vI ((i : Nat) : Int))] [vI (-1000000011)] (mk h τ)
      refine a_aload_n (j := 2) dL_law_1397 rfl rfl (Nat.le_of_ble_eq_true rfl) ?_
      refine a_aload_n (j := 0) dL_law_1398 rfl rfl (Nat.le_of_ble_eq_true rfl) ?_
      refine a_iload_n (j := 3) dL_law_1399 rfl rfl ?_
      refine a_iconst dL_law_1400 ⟨by decide, by decide⟩ ?_
      refine a_iadd (z := (((i : Nat) : Int) + 1)) dL_law_1401 (w_ok (by omega) (by omega)) ?_
      refine a_sld (i + 1) dL_law_1402 (by omega) (by omega) ?_
      rw [ha1]
      refine a_aload_n (j := 0) dL_law_1403 rfl rfl (Nat.le_of_ble_eq_true rfl) ?_
      refine a_iload_n (j := 3) dL_law_1404 rfl rfl ?_
      refine a_iconst dL_law_1405 ⟨by decide, by decide⟩ ?_
      refine a_iadd (z := (((i : Nat) : Int) + 2)) dL_law_1406 (w_ok (by omega) (by omega)) ?_
      refine a_sld (i + 2) dL_law_1407 (by omega) (by omega) ?_
      rw [ha2]
      refine a_aload_n (j := 0) dL_law_1408 rfl rfl (Nat.le_of_ble_eq_true rfl) ?_
      refine a_iload_n (j := 3) dL_law_1409 rfl rfl ?_
      refine a_iconst dL_law_1410 ⟨by decide, by decide⟩ ?_
      refine a_iadd (z := (((i : Nat) : Int) + 3)) dL_law_1411 (w_ok (by omega) (by omega)) ?_
      refine a_sld (i + 3) dL_law_1412 (by omega) (by omega) ?_
      rw [ha3]
      refine a_aload_n (j := 0) dL_law_1413 rfl rfl (Nat.le_of_ble_eq_true rfl) ?_
      refine a_iload_n (j := 3) dL_law_1414 rfl rfl ?_
      refine a_iconst dL_law_1415 ⟨by decide, by decide⟩ ?_
      refine a_iadd (z := (((i : Nat) : Int) + 4)) dL_law_1416 (w_ok (by omega) (by omega)) ?_
      refine a_sld (i + 4) dL_law_1417 (by omega) (by omega) ?_
      rw [ha4]
      refine a_aload_n (j := 0) dL_law_1418 rfl rfl (Nat.le_of_ble_eq_true rfl) ?_
      refine a_iload_n (j := 3) dL_law_1419 rfl rfl ?_
      refine a_iconst dL_law_1420 ⟨by decide, by decide⟩ ?_
      refine a_iadd (z := (((i : Nat) : Int) + 5)) dL_law_1421 (w_ok (by omega) (by omega)) ?_
      refine a_sld (i + 5) dL_law_1422 (by omega) (by omega) ?_
      rw [ha5]
      refine b_callV (d' := d - 1) (mc' := 0) (ms' := 0) (mc1 := mc) (ms1 := ms) (st := [vI (-1000000011)]) (b := 123) [vI ((s0 : Nat) : Int), vI a2, vI ((b0 : Nat) : Int), vI a4, vI a5] dL_law_1423 mwX9_copy lkL_171 (by decide) rfl rc_X9 rfl (Nat.le_of_ble_eq_true rfl) (by omega) (by omega) (by omega) (c_X9_copy (v1 := (h 146 s0)) (v2 := (h 146 b0)) (v3 := (h 145 s0)) (v4 := (h 145 b0)) (f5 := (h 147)) (f6 := (h 152)) (by omega)  rfl rfl rfl rfl rfl rfl (show Im ((s0 : Nat) : Int) 4 (0 ≤ (h 146 s0) ∧ (h 146 s0) ≤ 24) from fun _ _ => (by omega)) (show Im ((b0 : Nat) : Int) 4 (0 ≤ (h 146 b0) ∧ (h 146 b0) ≤ 24) from fun _ _ => (by omega)) (fun t1_1_24 t8_2_24 c23_4_24 => ?_) (fun t1_1_24 t8_2_24 c23_4_24 c32_6_24 c51_9_24 c58_10_24 => ?_) (fun t1_1_24 t8_2_24 c23_4_24 c32_6_24 c51_9_24 c58_10_24 c63_11_24 => ?_) (fun t1_1_24 t8_2_24 c23_4_24 c32_6_24 c51_9_24 c58_10_24 c63_11_24 c68_12_24 => ?_) (fun t1_1_24 t8_2_24 c23_4_24 c32_6_24 c51_9_24 c58_10_24 c63_11_24 c68_12_24 c81_14_24 => ?_) (fun t1_1_24 t8_2_24 c23_4_24 c32_6_24 c51_9_24 c58_10_24 c63_11_24 c68_12_24 c81_14_24 c95_16_24 => ?_) (fun t1_1_24 t8_2_24 c23_4_24 c32_6_24 c51_9_24 c58_10_24 c63_11_24 c68_12_24 c81_14_24 c95_16_24 => ?_) (fun t1_1_24 t8_2_24 c23_4_24 c32_6_24 c51_9_24 => ?_) (fun t1_1_24 t8_2_24 c23_4_24 c32_6_24 => ?_) (fun t1_1_24 t8_2_24 => ?_) (fun t1_1_24 => ?_))
      · have t1_1_24 : 0 ≤ ((s0 : Nat) : Int) ∧ ((s0 : Nat) : Int) ≤ 3 := t1_1_24
        have t8_2_24 : 0 ≤ ((b0 : Nat) : Int) ∧ ((b0 : Nat) : Int) ≤ 3 := t8_2_24
        have c23_4_24 : (h 145 s0) < 0 := c23_4_24
        show Aj γ mL_law d mc ms Post 1426 [(0, vK 0), (1, vA 0), (2, vA 123), (3, vI ((i : Nat) : Int))] [vI (-1000000011), vI (-1000000011)] (mk h τ)
        refine a_icmp_eq (tgt := 1668) dL_law_1426 (by decide) (fun _ => ?_) (fun c => absurd c (by decide))
        exact kE h N J (IV_up (by omega) hI)
      · have t1_1_24 : 0 ≤ ((s0 : Nat) : Int) ∧ ((s0 : Nat) : Int) ≤ 3 := t1_1_24
        have t8_2_24 : 0 ≤ ((b0 : Nat) : Int) ∧ ((b0 : Nat) : Int) ≤ 3 := t8_2_24
        have c23_4_24 : ¬ (h 145 s0) < 0 := c23_4_24
        have c32_6_24 : 0 ≤ (h 145 b0) := c32_6_24
        have c51_9_24 : (h 145 s0) = (h 145 b0) := c51_9_24
        have c58_10_24 : a2 < 0 := c58_10_24
        show Aj γ mL_law d mc ms Post 1426 [(0, vK 0), (1, vA 0), (2, vA 123), (3, vI ((i : Nat) : Int))] [vI (-1000000013), vI (-1000000011)] (mk h τ)
        refine a_icmp_eq (tgt := 1668) dL_law_1426 (by decide) (fun c => absurd c (by decide)) (fun _ => ?_)
        refine a_iconst dL_law_1429 ⟨by decide, by decide⟩ ?_
        exact a_zret dL_law_1430 rfl (by first | exact Or.inl rfl | exact Or.inr rfl | omega) (by exfalso; omega)
      · have t1_1_24 : 0 ≤ ((s0 : Nat) : Int) ∧ ((s0 : Nat) : Int) ≤ 3 := t1_1_24
        have t8_2_24 : 0 ≤ ((b0 : Nat) : Int) ∧ ((b0 : Nat) : Int) ≤ 3 := t8_2_24
        have c23_4_24 : ¬ (h 145 s0) < 0 := c23_4_24
        have c32_6_24 : 0 ≤ (h 145 b0) := c32_6_24
        have c51_9_24 : (h 145 s0) = (h 145 b0) := c51_9_24
        have c58_10_24 : ¬ a2 < 0 := c58_10_24
        have c63_11_24 : a4 < 0 := c63_11_24
        show Aj γ mL_law d mc ms Post 1426 [(0, vK 0), (1, vA 0), (2, vA 123), (3, vI ((i : Nat) : Int))] [vI (-1000000013), vI (-1000000011)] (mk h τ)
        refine a_icmp_eq (tgt := 1668) dL_law_1426 (by decide) (fun c => absurd c (by decide)) (fun _ => ?_)
        refine a_iconst dL_law_1429 ⟨by decide, by decide⟩ ?_
        exact a_zret dL_law_1430 rfl (by first | exact Or.inl rfl | exact Or.inr rfl | omega) (by exfalso; omega)
      · have t1_1_24 : 0 ≤ ((s0 : Nat) : Int) ∧ ((s0 : Nat) : Int) ≤ 3 := t1_1_24
        have t8_2_24 : 0 ≤ ((b0 : Nat) : Int) ∧ ((b0 : Nat) : Int) ≤ 3 := t8_2_24
        have c23_4_24 : ¬ (h 145 s0) < 0 := c23_4_24
        have c32_6_24 : 0 ≤ (h 145 b0) := c32_6_24
        have c51_9_24 : (h 145 s0) = (h 145 b0) := c51_9_24
        have c58_10_24 : ¬ a2 < 0 := c58_10_24
        have c63_11_24 : ¬ a4 < 0 := c63_11_24
        have c68_12_24 : a5 < 0 := c68_12_24
        show Aj γ mL_law d mc ms Post 1426 [(0, vK 0), (1, vA 0), (2, vA 123), (3, vI ((i : Nat) : Int))] [vI (-1000000013), vI (-1000000011)] (mk h τ)
        refine a_icmp_eq (tgt := 1668) dL_law_1426 (by decide) (fun c => absurd c (by decide)) (fun _ => ?_)
        refine a_iconst dL_law_1429 ⟨by decide, by decide⟩ ?_
        exact a_zret dL_law_1430 rfl (by first | exact Or.inl rfl | exact Or.inr rfl | omega) (by exfalso; omega)
      · have t1_1_24 : 0 ≤ ((s0 : Nat) : Int) ∧ ((s0 : Nat) : Int) ≤ 3 := t1_1_24
        have t8_2_24 : 0 ≤ ((b0 : Nat) : Int) ∧ ((b0 : Nat) : Int) ≤ 3 := t8_2_24
        have c23_4_24 : ¬ (h 145 s0) < 0 := c23_4_24
        have c32_6_24 : 0 ≤ (h 145 b0) := c32_6_24
        have c51_9_24 : (h 145 s0) = (h 145 b0) := c51_9_24
        have c58_10_24 : ¬ a2 < 0 := c58_10_24
        have c63_11_24 : ¬ a4 < 0 := c63_11_24
        have c68_12_24 : ¬ a5 < 0 := c68_12_24
        have c81_14_24 : ((h 146 s0) - a5) < a2 := c81_14_24
        show Aj γ mL_law d mc ms Post 1426 [(0, vK 0), (1, vA 0), (2, vA 123), (3, vI ((i : Nat) : Int))] [vI (-1000000013), vI (-1000000011)] (mk h τ)
        refine a_icmp_eq (tgt := 1668) dL_law_1426 (by decide) (fun c => absurd c (by decide)) (fun _ => ?_)
        refine a_iconst dL_law_1429 ⟨by decide, by decide⟩ ?_
        exact a_zret dL_law_1430 rfl (by first | exact Or.inl rfl | exact Or.inr rfl | omega) (by exfalso; omega)
      · have t1_1_24 : 0 ≤ ((s0 : Nat) : Int) ∧ ((s0 : Nat) : Int) ≤ 3 := t1_1_24
        have t8_2_24 : 0 ≤ ((b0 : Nat) : Int) ∧ ((b0 : Nat) : Int) ≤ 3 := t8_2_24
        have c23_4_24 : ¬ (h 145 s0) < 0 := c23_4_24
        have c32_6_24 : 0 ≤ (h 145 b0) := c32_6_24
        have c51_9_24 : (h 145 s0) = (h 145 b0) := c51_9_24
        have c58_10_24 : ¬ a2 < 0 := c58_10_24
        have c63_11_24 : ¬ a4 < 0 := c63_11_24
        have c68_12_24 : ¬ a5 < 0 := c68_12_24
        have c81_14_24 : ¬ ((h 146 s0) - a5) < a2 := c81_14_24
        have c95_16_24 : a4 ≤ ((h 146 b0) - a5) := c95_16_24
        show Aj γ mL_law d mc ms Post 1426 [(0, vK 0), (1, vA 0), (2, vA 123), (3, vI ((i : Nat) : Int))] [vI a5, vI (-1000000011)] (mk (upR (upR h 152 (cpy (h 147) (h 152) (Int.toNat ((24 * ((s0 : Nat) : Int)) + a2)) 0 (Int.toNat a5))) 147 (cpy (cpy (h 147) (h 152) (Int.toNat ((24 * ((s0 : Nat) : Int)) + a2)) 0 (Int.toNat a5)) (h 147) 0 (Int.toNat ((24 * ((b0 : Nat) : Int)) + a4)) (Int.toNat a5))) τ)
        refine a_icmp_eq (tgt := 1668) dL_law_1426 (by decide) (fun c1426_26 => ?_) (fun c1426_26 => ?_)
        · exfalso
          omega
        · refine a_iconst dL_law_1429 ⟨by decide, by decide⟩ ?_
          exact a_zret dL_law_1430 rfl (by first | exact Or.inl rfl | exact Or.inr rfl | omega) (by exfalso; omega)
      · have t1_1_24 : 0 ≤ ((s0 : Nat) : Int) ∧ ((s0 : Nat) : Int) ≤ 3 := t1_1_24
        have t8_2_24 : 0 ≤ ((b0 : Nat) : Int) ∧ ((b0 : Nat) : Int) ≤ 3 := t8_2_24
        have c23_4_24 : ¬ (h 145 s0) < 0 := c23_4_24
        have c32_6_24 : 0 ≤ (h 145 b0) := c32_6_24
        have c51_9_24 : (h 145 s0) = (h 145 b0) := c51_9_24
        have c58_10_24 : ¬ a2 < 0 := c58_10_24
        have c63_11_24 : ¬ a4 < 0 := c63_11_24
        have c68_12_24 : ¬ a5 < 0 := c68_12_24
        have c81_14_24 : ¬ ((h 146 s0) - a5) < a2 := c81_14_24
        have c95_16_24 : ¬ a4 ≤ ((h 146 b0) - a5) := c95_16_24
        show Aj γ mL_law d mc ms Post 1426 [(0, vK 0), (1, vA 0), (2, vA 123), (3, vI ((i : Nat) : Int))] [vI (-1000000013), vI (-1000000011)] (mk h τ)
        refine a_icmp_eq (tgt := 1668) dL_law_1426 (by decide) (fun c => absurd c (by decide)) (fun _ => ?_)
        refine a_iconst dL_law_1429 ⟨by decide, by decide⟩ ?_
        exact a_zret dL_law_1430 rfl (by first | exact Or.inl rfl | exact Or.inr rfl | omega) (by exfalso; omega)
      · have t1_1_24 : 0 ≤ ((s0 : Nat) : Int) ∧ ((s0 : Nat) : Int) ≤ 3 := t1_1_24
        have t8_2_24 : 0 ≤ ((b0 : Nat) : Int) ∧ ((b0 : Nat) : Int) ≤ 3 := t8_2_24
        have c23_4_24 : ¬ (h 145 s0) < 0 := c23_4_24
        have c32_6_24 : 0 ≤ (h 145 b0) := c32_6_24
        have c51_9_24 : ¬ (h 145 s0) = (h 145 b0) := c51_9_24
        show Aj γ mL_law d mc ms Post 1426 [(0, vK 0), (1, vA 0), (2, vA 123), (3, vI ((i : Nat) : Int))] [vI (-1000000012), vI (-1000000011)] (mk h τ)
        refine a_icmp_eq (tgt := 1668) dL_law_1426 (by decide) (fun c => absurd c (by decide)) (fun _ => ?_)
        refine a_iconst dL_law_1429 ⟨by decide, by decide⟩ ?_
        exact a_zret dL_law_1430 rfl (by first | exact Or.inl rfl | exact Or.inr rfl | omega) (by exfalso; omega)
      · have t1_1_24 : 0 ≤ ((s0 : Nat) : Int) ∧ ((s0 : Nat) : Int) ≤ 3 := t1_1_24
        have t8_2_24 : 0 ≤ ((b0 : Nat) : Int) ∧ ((b0 : Nat) : Int) ≤ 3 := t8_2_24
        have c23_4_24 : ¬ (h 145 s0) < 0 := c23_4_24
        have c32_6_24 : ¬ 0 ≤ (h 145 b0) := c32_6_24
        show Aj γ mL_law d mc ms Post 1426 [(0, vK 0), (1, vA 0), (2, vA 123), (3, vI ((i : Nat) : Int))] [vI (-1000000011), vI (-1000000011)] (mk h τ)
        refine a_icmp_eq (tgt := 1668) dL_law_1426 (by decide) (fun _ => ?_) (fun c => absurd c (by decide))
        exact kE h N J (IV_up (by omega) hI)
      · exfalso
        omega
      · exfalso
        omega
    · exfalso
      omega
    · exfalso
      omega
