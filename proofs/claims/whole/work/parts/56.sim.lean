def SLs (h : Nat → Nat → Int) (s : Nat) : Prop := h (98 + 5 * s) 0 = h 148 s ∧ (0 ≤ h 148 s ∧ h 148 s ≤ 3) ∧ (h 148 s = 1 → h (98 + 5 * s + 1) 0 = h 149 s ∧ (0 ≤ h (98 + 5 * s + 1) 5 ∧ h (98 + 5 * s + 1) 5 ≤ 999) ∧ farF (h 149 s) (h (98 + 5 * s + 1) 5) = h 150 s ∧ 0 ≤ h 149 s ∧ h 149 s ≤ 5) ∧ (h 148 s = 2 → h (98 + 5 * s + 3) 1 = h 149 s ∧ (0 ≤ h 149 s ∧ h 149 s ≤ 24) ∧ ∀ k, k < 24 → h (98 + 5 * s + 4) k = h 151 (24 * s + k)) ∧ (h 148 s = 3 → h (98 + 5 * s) 1 = h 149 s) ∧ 0 ≤ h (98 + 5 * s + 3) 1 ∧ h (98 + 5 * s + 3) 1 ≤ 24
theorem SLE_u {h H : Nat → Nat → Int} {s0 : Nat} (hs : s0 < 5) (eo : ∀ c, 98 ≤ c → c < 123 → (c < 98 + 5 * s0 ∨ 98 + 5 * s0 + 5 ≤ c) → H c = h c) (o8 : ∀ k, k ≠ s0 → H 148 k = h 148 k) (o9 : ∀ k, k ≠ s0 → H 149 k = h 149 k) (o0 : ∀ k, k ≠ s0 → H 150 k = h 150 k) (o1 : ∀ k, k < 24 * s0 ∨ 24 * s0 + 24 ≤ k → H 151 k = h 151 k) (nw : SLs H s0) (q : SLE h) : SLE H := by
  intro s hs5
  by_cases c : s = s0
  · subst c; exact nw
  · have q1 := q s hs5
    rw [eo (98 + 5 * s) (by omega) (by omega) (by omega), eo (98 + 5 * s + 1) (by omega) (by omega) (by omega), eo (98 + 5 * s + 3) (by omega) (by omega) (by omega), eo (98 + 5 * s + 4) (by omega) (by omega) (by omega), o8 s c, o9 s c, o0 s c]
    exact ⟨q1.1, q1.2.1, q1.2.2.1, fun e => ⟨(q1.2.2.2.1 e).1, (q1.2.2.2.1 e).2.1, fun k hk => by rw [o1 _ (by omega)]; exact (q1.2.2.2.1 e).2.2 k hk⟩, q1.2.2.2.2.1, q1.2.2.2.2.2⟩
set_option maxHeartbeats 16000000 in
theorem s_lay {γ : GT} {d mc ms n i : Nat} {N J : Nat → Int} {h : Nat → Nat → Int} {τ : List AC} {Post : Option AV → List AC → Prop} (hd : 30 ≤ d) (hn : n < 64) (hi : i + 5 < g_L γ) (hL : g_L γ ≤ 384) (hI : IVp n h τ N J) (kE : ∀ h' N' J', IVp (n + 1) h' τ N' J' → Aj γ mL_law d mc ms Post 1668 [(0, vK 0), (1, vA 0), (2, vA 123), (3, vI ((i : Nat) : Int))] [] (mk h' τ)) : Aj γ mL_law d mc ms Post 1431 [(0, vK 0), (1, vA 0), (2, vA 123), (3, vI ((i : Nat) : Int))] [] (mk h τ) := by
  obtain ⟨hN, hJ, hX, hR, hk, hkK, hC, hRC, hst, hO⟩ := id hI
  have hsc := hX.1.1
  have hs1 := hsc.1
  have hs2 := hsc.2.1
  have hs3 := hsc.2.2.1
  have hs4 := hsc.2.2.2.1
  have hs5 := hsc.2.2.2.2
  have hs6 := hX.1.2.2.2.1
  have hx7 := hX.2.1
  have hx8 := hX.2.2.2.1
  obtain ⟨a1, ha1⟩ : ∃ z, (g_x γ (i + 1)).toInt = z := ⟨_, rfl⟩
  have ra1 : inI a1 := ha1 ▸ i32_rng _
  unfold inI at ra1
  obtain ⟨a2, ha2⟩ : ∃ z, (g_x γ (i + 2)).toInt = z := ⟨_, rfl⟩
  have ra2 : inI a2 := ha2 ▸ i32_rng _
  unfold inI at ra2
  obtain ⟨a3, ha3⟩ : ∃ z, (g_x γ (i + 3)).toInt = z := ⟨_, rfl⟩
  have ra3 : inI a3 := ha3 ▸ i32_rng _
  unfold inI at ra3
  rcases (show ¬ (0 ≤ a1 ∧ a1 ≤ 4) ∨ ((0 ≤ a1 ∧ a1 ≤ 4) ∧ a2 = 1 ∧ (0 ≤ a3 ∧ a3 < N 5)) ∨ ((0 ≤ a1 ∧ a1 ≤ 4) ∧ a2 = 2 ∧ (0 ≤ a3 ∧ a3 ≤ 3)) ∨ ((0 ≤ a1 ∧ a1 ≤ 4) ∧ a2 = 0) ∨ ((0 ≤ a1 ∧ a1 ≤ 4) ∧ a2 = 3) ∨ ((0 ≤ a1 ∧ a1 ≤ 4) ∧ ((a2 = 1 ∧ ¬ (0 ≤ a3 ∧ a3 < N 5)) ∨ (a2 = 2 ∧ ¬ (0 ≤ a3 ∧ a3 ≤ 3)) ∨ ¬ (0 ≤ a2 ∧ a2 ≤ 3))) by omega) with hin | hin | hin | hin | hin | hin
  · skip
    have y5 : 0 ≤ a3 ∧ a3 < N 5 → 0 ≤ N (Int.toNat ((15 + (11 * a3)) + 5)) ∧ N (Int.toNat ((15 + (11 * a3)) + 5)) ≤ 999 := fun p => by have w := (hX.1.2.2.1 (Int.toNat a3) (by omega)).2.2.2.2.2.1; rw [show Int.toNat ((15 + (11 * a3)) + 5) = 20 + 11 * Int.toNat a3 by omega]; exact w
    refine a_aload_n (j := 1) dL_law_1431 rfl rfl (Nat.le_of_ble_eq_true rfl) ?_
    refine a_aload_n (j := 0) dL_law_1432 rfl rfl (Nat.le_of_ble_eq_true rfl) ?_
    refine a_iload_n (j := 3) dL_law_1433 rfl rfl ?_
    refine a_iconst dL_law_1434 ⟨by decide, by decide⟩ ?_
    refine a_iadd (z := (((i : Nat) : Int) + 1)) dL_law_1435 (w_ok (by omega) (by omega)) ?_
    refine a_sld (i + 1) dL_law_1436 (by omega) (by omega) ?_
    rw [ha1]
    refine a_aload_n (j := 0) dL_law_1437 rfl rfl (Nat.le_of_ble_eq_true rfl) ?_
    refine a_iload_n (j := 3) dL_law_1438 rfl rfl ?_
    refine a_iconst dL_law_1439 ⟨by decide, by decide⟩ ?_
    refine a_iadd (z := (((i : Nat) : Int) + 2)) dL_law_1440 (w_ok (by omega) (by omega)) ?_
    refine a_sld (i + 2) dL_law_1441 (by omega) (by omega) ?_
    rw [ha2]
    refine a_aload_n (j := 0) dL_law_1442 rfl rfl (Nat.le_of_ble_eq_true rfl) ?_
    refine a_iload_n (j := 3) dL_law_1443 rfl rfl ?_
    refine a_iconst dL_law_1444 ⟨by decide, by decide⟩ ?_
    refine a_iadd (z := (((i : Nat) : Int) + 3)) dL_law_1445 (w_ok (by omega) (by omega)) ?_
    refine a_sld (i + 3) dL_law_1446 (by omega) (by omega) ?_
    rw [ha3]
    refine b_callV (d' := d - 1) (mc' := 0) (ms' := 0) (mc1 := mc) (ms1 := ms) (st := []) (b := 0) [vI a1, vI a2, vI a3] dL_law_1447 mwX8_lay lkL_172 (by decide) rfl rc_X8 rfl (Nat.le_of_ble_eq_true rfl) (by omega) (by omega) (by omega) (c_X8_lay (v1 := (N 5)) (v2 := (h (98 + 5 * (Int.toNat a1)) 0)) (v3 := (h (90 + 2 * (Int.toNat a3)) 0)) (v4 := (h (90 + 2 * (Int.toNat a3)) 1)) (f5 := (h ((90 + 2 * (Int.toNat a3)) + 1))) (f6 := (h (((98 + 5 * (Int.toNat a1)) + 3) + 1))) (v7 := (h (8 + 2 * (Int.toNat a3)) 0)) (v8 := (h (8 + 2 * (Int.toNat a3)) 1)) (v9 := (h (8 + 2 * (Int.toNat a3)) 2)) (v10 := (h (8 + 2 * (Int.toNat a3)) 3)) (v11 := (h (8 + 2 * (Int.toNat a3)) 4)) (v12 := (h (8 + 2 * (Int.toNat a3)) 5)) (v13 := (h (8 + 2 * (Int.toNat a3)) 6)) (f14 := (h ((8 + 2 * (Int.toNat a3)) + 1))) (f15 := (h (((98 + 5 * (Int.toNat a1)) + 1) + 1))) (by omega)  hR.1.2.1 rfl rfl rfl rfl rfl rfl rfl rfl rfl rfl rfl rfl rfl rfl (show 0 ≤ (N 5) ∧ (N 5) ≤ 12 by omega) (fun t1_1_1 t10_2_1 c21_3_1 c37_4_1 c52_5_1 c95_6_1 c120_7_1 => ?_) (fun t1_1_1 t10_2_1 c21_3_1 c37_4_1 t41_8_1 c52_9_1 c65_10_1 c95_11_1 c120_12_1 => ?_) (fun t1_1_1 t10_2_1 c21_3_1 c37_4_1 t41_8_1 c52_9_1 c65_10_1 => ?_) (fun t1_1_1 t10_2_1 c21_3_1 c37_4_1 t41_8_1 => ?_) (fun t1_1_1 t10_2_1 c21_3_1 t29_13_1 c37_14_1 c52_15_1 c95_16_1 => ?_) (fun t1_1_1 t10_2_1 c21_3_1 t29_13_1 => ?_) (fun t1_1_1 t10_2_1 => ?_) (fun t1_1_1 => ?_))
    · exfalso
      omega
    · exfalso
      omega
    · exfalso
      omega
    · exfalso
      omega
    · exfalso
      omega
    · exfalso
      omega
    · exfalso
      omega
    · have t1_1_1 : ¬ (0 ≤ a1 ∧ a1 ≤ 4) := t1_1_1
      show Aj γ mL_law d mc ms Post 1450 [(0, vK 0), (1, vA 0), (2, vA 123), (3, vI ((i : Nat) : Int))] [vI (-1000000001)] (mk h τ)
      refine a_aload_n (j := 2) dL_law_1450 rfl rfl (Nat.le_of_ble_eq_true rfl) ?_
      refine a_aload_n (j := 0) dL_law_1451 rfl rfl (Nat.le_of_ble_eq_true rfl) ?_
      refine a_iload_n (j := 3) dL_law_1452 rfl rfl ?_
      refine a_iconst dL_law_1453 ⟨by decide, by decide⟩ ?_
      refine a_iadd (z := (((i : Nat) : Int) + 1)) dL_law_1454 (w_ok (by omega) (by omega)) ?_
      refine a_sld (i + 1) dL_law_1455 (by omega) (by omega) ?_
      rw [ha1]
      refine a_aload_n (j := 0) dL_law_1456 rfl rfl (Nat.le_of_ble_eq_true rfl) ?_
      refine a_iload_n (j := 3) dL_law_1457 rfl rfl ?_
      refine a_iconst dL_law_1458 ⟨by decide, by decide⟩ ?_
      refine a_iadd (z := (((i : Nat) : Int) + 2)) dL_law_1459 (w_ok (by omega) (by omega)) ?_
      refine a_sld (i + 2) dL_law_1460 (by omega) (by omega) ?_
      rw [ha2]
      refine a_aload_n (j := 0) dL_law_1461 rfl rfl (Nat.le_of_ble_eq_true rfl) ?_
      refine a_iload_n (j := 3) dL_law_1462 rfl rfl ?_
      refine a_iconst dL_law_1463 ⟨by decide, by decide⟩ ?_
      refine a_iadd (z := (((i : Nat) : Int) + 3)) dL_law_1464 (w_ok (by omega) (by omega)) ?_
      refine a_sld (i + 3) dL_law_1465 (by omega) (by omega) ?_
      rw [ha3]
      refine b_callV (d' := d - 1) (mc' := 0) (ms' := 0) (mc1 := mc) (ms1 := ms) (st := [vI (-1000000001)]) (b := 123) [vI a1, vI a2, vI a3] dL_law_1466 mwX9_lay lkL_175 (by decide) rfl rc_X9 rfl (Nat.le_of_ble_eq_true rfl) (by omega) (by omega) (by omega) (c_X9_lay (v1 := (N 5)) (v2 := (N (Int.toNat ((15 + (11 * a3)) + 5)))) (v3 := (h 148 (Int.toNat a1))) (v4 := (h 145 (Int.toNat a3))) (v5 := (h 146 (Int.toNat a3))) (f6 := (h 147)) (f7 := (h 151)) (v8 := (N (Int.toNat ((15 + (11 * a3)) + 0)))) (by omega)  (congrFun hN _) (congrFun hN _) rfl rfl rfl rfl rfl (congrFun hN _) (show 0 ≤ (N 5) ∧ (N 5) ≤ 12 by omega) (show Im a3 (N 5) (0 ≤ (N (Int.toNat ((15 + (11 * a3)) + 5))) ∧ (N (Int.toNat ((15 + (11 * a3)) + 5))) ≤ 999) from fun _ _ => (by omega)) (fun t1_1_3 t10_2_3 c18_3_3 c31_4_3 c46_5_3 c84_7_3 c98_8_3 c119_9_3 c154_10_3 => ?_) (fun t1_1_3 t10_2_3 c18_3_3 c31_4_3 t35_11_3 c46_12_3 c55_14_3 c84_16_3 c98_17_3 c119_19_3 => ?_) (fun t1_1_3 t10_2_3 c18_3_3 c31_4_3 t35_11_3 c46_12_3 c55_14_3 => ?_) (fun t1_1_3 t10_2_3 c18_3_3 c31_4_3 t35_11_3 => ?_) (fun t1_1_3 t10_2_3 c18_3_3 t23_20_3 c31_21_3 c46_22_3 c84_24_3 c119_25_3 c154_26_3 => ?_) (fun t1_1_3 t10_2_3 c18_3_3 t23_20_3 => ?_) (fun t1_1_3 t10_2_3 => ?_) (fun t1_1_3 => ?_))
      · exfalso
        omega
      · exfalso
        omega
      · exfalso
        omega
      · exfalso
        omega
      · exfalso
        omega
      · exfalso
        omega
      · exfalso
        omega
      · have t1_1_3 : ¬ (0 ≤ a1 ∧ a1 ≤ 4) := t1_1_3
        show Aj γ mL_law d mc ms Post 1469 [(0, vK 0), (1, vA 0), (2, vA 123), (3, vI ((i : Nat) : Int))] [vI (-1000000001), vI (-1000000001)] (mk h τ)
        refine a_icmp_eq (tgt := 1668) dL_law_1469 (by decide) (fun _ => ?_) (fun c => absurd c (by decide))
        exact kE h N J (IV_up (by omega) hI)
  · obtain ⟨s0, rfl⟩ : ∃ z : Nat, a1 = (z : Int) := ⟨Int.toNat a1, by omega⟩
    obtain ⟨l0, l1, l2, l3, l4, l5⟩ := hO.2.2.1 s0 (by omega)
    obtain ⟨t0, rfl⟩ : ∃ z : Nat, a3 = (z : Int) := ⟨Int.toNat a3, by omega⟩
    have hb9 := hX.1.2.2.1 t0 (by omega)
    unfold trR at hb9
    obtain rfl : a2 = 1 := hin.2.1
    refine a_aload_n (j := 1) dL_law_1431 rfl rfl (Nat.le_of_ble_eq_true rfl) ?_
    refine a_aload_n (j := 0) dL_law_1432 rfl rfl (Nat.le_of_ble_eq_true rfl) ?_
    refine a_iload_n (j := 3) dL_law_1433 rfl rfl ?_
    refine a_iconst dL_law_1434 ⟨by decide, by decide⟩ ?_
    refine a_iadd (z := (((i : Nat) : Int) + 1)) dL_law_1435 (w_ok (by omega) (by omega)) ?_
    refine a_sld (i + 1) dL_law_1436 (by omega) (by omega) ?_
    rw [ha1]
    refine a_aload_n (j := 0) dL_law_1437 rfl rfl (Nat.le_of_ble_eq_true rfl) ?_
    refine a_iload_n (j := 3) dL_law_1438 rfl rfl ?_
    refine a_iconst dL_law_1439 ⟨by decide, by decide⟩ ?_
    refine a_iadd (z := (((i : Nat) : Int) + 2)) dL_law_1440 (w_ok (by omega) (by omega)) ?_
    refine a_sld (i + 2) dL_law_1441 (by omega) (by omega) ?_
    rw [ha2]
    refine a_aload_n (j := 0) dL_law_1442 rfl rfl (Nat.le_of_ble_eq_true rfl) ?_
    refine a_iload_n (j := 3) dL_law_1443 rfl rfl ?_
    refine a_iconst dL_law_1444 ⟨by decide, by decide⟩ ?_
    refine a_iadd (z := (((i : Nat) : Int) + 3)) dL_law_1445 (w_ok (by omega) (by omega)) ?_
    refine a_sld (i + 3) dL_law_1446 (by omega) (by omega) ?_
    rw [ha3]
    refine b_callV (d' := d - 1) (mc' := 0) (ms' := 0) (mc1 := mc) (ms1 := ms) (st := []) (b := 0) [vI ((s0 : Nat) : Int), vI 1, vI ((t0 : Nat) : Int)] dL_law_1447 mwX8_lay lkL_172 (by decide) rfl rc_X8 rfl (Nat.le_of_ble_eq_true rfl) (by omega) (by omega) (by omega) (c_X8_lay (v1 := (N 5)) (v2 := (h 148 s0)) (v3 := (h (90 + 2 * t0) 0)) (v4 := (h (90 + 2 * t0) 1)) (f5 := (h ((90 + 2 * t0) + 1))) (f6 := (h (((98 + 5 * s0) + 3) + 1))) (v7 := (N (15 + 11 * t0))) (v8 := (N (16 + 11 * t0))) (v9 := (N (17 + 11 * t0))) (v10 := (N (18 + 11 * t0))) (v11 := (N (19 + 11 * t0))) (v12 := (N (20 + 11 * t0))) (v13 := (hsF (N (21 + 11 * t0)))) (f14 := (h ((8 + 2 * t0) + 1))) (f15 := (h (((98 + 5 * s0) + 1) + 1))) (by omega)  hR.1.2.1 l0 rfl rfl rfl rfl (hR.2.2.1 t0 (by omega)).1 (hR.2.2.1 t0 (by omega)).2.1 (hR.2.2.1 t0 (by omega)).2.2.1 (hR.2.2.1 t0 (by omega)).2.2.2.1 (hR.2.2.1 t0 (by omega)).2.2.2.2.1 (hR.2.2.1 t0 (by omega)).2.2.2.2.2.1 (hR.2.2.1 t0 (by omega)).2.2.2.2.2.2.1 rfl rfl (show 0 ≤ (N 5) ∧ (N 5) ≤ 12 by omega) (fun t1_1_1 t10_2_1 c21_3_1 c37_4_1 c52_5_1 c95_6_1 c120_7_1 => ?_) (fun t1_1_1 t10_2_1 c21_3_1 c37_4_1 t41_8_1 c52_9_1 c65_10_1 c95_11_1 c120_12_1 => ?_) (fun t1_1_1 t10_2_1 c21_3_1 c37_4_1 t41_8_1 c52_9_1 c65_10_1 => ?_) (fun t1_1_1 t10_2_1 c21_3_1 c37_4_1 t41_8_1 => ?_) (fun t1_1_1 t10_2_1 c21_3_1 t29_13_1 c37_14_1 c52_15_1 c95_16_1 => ?_) (fun t1_1_1 t10_2_1 c21_3_1 t29_13_1 => ?_) (fun t1_1_1 t10_2_1 => ?_) (fun t1_1_1 => ?_))
    · exact absurd c21_3_1 (by decide)
    · exact absurd c21_3_1 (by decide)
    · exact absurd c21_3_1 (by decide)
    · exact absurd c21_3_1 (by decide)
    · have t1_1_1 : 0 ≤ ((s0 : Nat) : Int) ∧ ((s0 : Nat) : Int) ≤ 4 := t1_1_1
      have t10_2_1 : (0 : Int) ≤ (1 : Int) ∧ (1 : Int) ≤ (3 : Int) := t10_2_1
      have c21_3_1 : (1 : Int) = (1 : Int) := c21_3_1
      have t29_13_1 : 0 ≤ ((t0 : Nat) : Int) ∧ ((t0 : Nat) : Int) < (N 5) := t29_13_1
      have c37_14_1 : ¬ (1 : Int) = (2 : Int) := c37_14_1
      have c52_15_1 : ¬ (1 : Int) = (2 : Int) := c52_15_1
      have c95_16_1 : (1 : Int) = (1 : Int) := c95_16_1
      show Aj γ mL_law d mc ms Post 1450 [(0, vK 0), (1, vA 0), (2, vA 123), (3, vI ((i : Nat) : Int))] [vI (h 148 s0)] (mk (upR (up2 (up2 (up2 (up2 (up2 (up2 (up2 (up2 h (98 + 5 * s0) 0 1) ((98 + 5 * s0) + 1) 0 (N (15 + 11 * t0))) ((98 + 5 * s0) + 1) 1 (N (16 + 11 * t0))) ((98 + 5 * s0) + 1) 2 (N (17 + 11 * t0))) ((98 + 5 * s0) + 1) 3 (N (18 + 11 * t0))) ((98 + 5 * s0) + 1) 4 (N (19 + 11 * t0))) ((98 + 5 * s0) + 1) 5 (N (20 + 11 * t0))) ((98 + 5 * s0) + 1) 6 (hsF (N (21 + 11 * t0)))) (((98 + 5 * s0) + 1) + 1) (cpy (h ((8 + 2 * t0) + 1)) (h (((98 + 5 * s0) + 1) + 1)) 0 0 4)) τ)
      refine a_aload_n (j := 2) dL_law_1450 rfl rfl (Nat.le_of_ble_eq_true rfl) ?_
      refine a_aload_n (j := 0) dL_law_1451 rfl rfl (Nat.le_of_ble_eq_true rfl) ?_
      refine a_iload_n (j := 3) dL_law_1452 rfl rfl ?_
      refine a_iconst dL_law_1453 ⟨by decide, by decide⟩ ?_
      refine a_iadd (z := (((i : Nat) : Int) + 1)) dL_law_1454 (w_ok (by omega) (by omega)) ?_
      refine a_sld (i + 1) dL_law_1455 (by omega) (by omega) ?_
      rw [ha1]
      refine a_aload_n (j := 0) dL_law_1456 rfl rfl (Nat.le_of_ble_eq_true rfl) ?_
      refine a_iload_n (j := 3) dL_law_1457 rfl rfl ?_
      refine a_iconst dL_law_1458 ⟨by decide, by decide⟩ ?_
      refine a_iadd (z := (((i : Nat) : Int) + 2)) dL_law_1459 (w_ok (by omega) (by omega)) ?_
      refine a_sld (i + 2) dL_law_1460 (by omega) (by omega) ?_
      rw [ha2]
      refine a_aload_n (j := 0) dL_law_1461 rfl rfl (Nat.le_of_ble_eq_true rfl) ?_
      refine a_iload_n (j := 3) dL_law_1462 rfl rfl ?_
      refine a_iconst dL_law_1463 ⟨by decide, by decide⟩ ?_
      refine a_iadd (z := (((i : Nat) : Int) + 3)) dL_law_1464 (w_ok (by omega) (by omega)) ?_
      refine a_sld (i + 3) dL_law_1465 (by omega) (by omega) ?_
      rw [ha3]
      refine b_callV (d' := d - 1) (mc' := 0) (ms' := 0) (mc1 := mc) (ms1 := ms) (st := [vI (h 148 s0)]) (b := 123) [vI ((s0 : Nat) : Int), vI 1, vI ((t0 : Nat) : Int)] dL_law_1466 mwX9_lay lkL_175 (by decide) rfl rc_X9 rfl (Nat.le_of_ble_eq_true rfl) (by omega) (by omega) (by omega) (c_X9_lay (v1 := (N 5)) (v2 := (N (20 + 11 * t0))) (v3 := (h 148 s0)) (v4 := (h 145 t0)) (v5 := (h 146 t0)) (f6 := (h 147)) (f7 := (h 151)) (v8 := (N (15 + 11 * t0))) (by omega)  ((upR_ne (by omega)).trans ((up2_ne (by omega)).trans ((up2_ne (by omega)).trans ((up2_ne (by omega)).trans ((up2_ne (by omega)).trans ((up2_ne (by omega)).trans ((up2_ne (by omega)).trans ((up2_ne (by omega)).trans ((up2_ne (by omega)).trans (congrFun hN _)))))))))) ((upR_ne (by omega)).trans ((up2_ne (by omega)).trans ((up2_ne (by omega)).trans ((up2_ne (by omega)).trans ((up2_ne (by omega)).trans ((up2_ne (by omega)).trans ((up2_ne (by omega)).trans ((up2_ne (by omega)).trans ((up2_ne (by omega)).trans ((congrArg (h 124) (show (Int.toNat ((15 + (11 * ((t0 : Nat) : Int))) + 5)) = (20 + 11 * t0) by omega)).trans (congrFun hN _))))))))))) ((upR_ne (by omega)).trans ((up2_ne (by omega)).trans ((up2_ne (by omega)).trans ((up2_ne (by omega)).trans ((up2_ne (by omega)).trans ((up2_ne (by omega)).trans ((up2_ne (by omega)).trans ((up2_ne (by omega)).trans ((up2_ne (by omega)).trans rfl))))))))) ((upR_ne (by omega)).trans ((up2_ne (by omega)).trans ((up2_ne (by omega)).trans ((up2_ne (by omega)).trans ((up2_ne (by omega)).trans ((up2_ne (by omega)).trans ((up2_ne (by omega)).trans ((up2_ne (by omega)).trans ((up2_ne (by omega)).trans rfl))))))))) ((upR_ne (by omega)).trans ((up2_ne (by omega)).trans ((up2_ne (by omega)).trans ((up2_ne (by omega)).trans ((up2_ne (by omega)).trans ((up2_ne (by omega)).trans ((up2_ne (by omega)).trans ((up2_ne (by omega)).trans ((up2_ne (by omega)).trans rfl))))))))) ((upR_rn (by omega)).trans ((up2_row (by omega)).trans ((up2_row (by omega)).trans ((up2_row (by omega)).trans ((up2_row (by omega)).trans ((up2_row (by omega)).trans ((up2_row (by omega)).trans ((up2_row (by omega)).trans ((up2_row (by omega)).trans rfl))))))))) ((upR_rn (by omega)).trans ((up2_row (by omega)).trans ((up2_row (by omega)).trans ((up2_row (by omega)).trans ((up2_row (by omega)).trans ((up2_row (by omega)).trans ((up2_row (by omega)).trans ((up2_row (by omega)).trans ((up2_row (by omega)).trans rfl))))))))) ((upR_ne (by omega)).trans ((up2_ne (by omega)).trans ((up2_ne (by omega)).trans ((up2_ne (by omega)).trans ((up2_ne (by omega)).trans ((up2_ne (by omega)).trans ((up2_ne (by omega)).trans ((up2_ne (by omega)).trans ((up2_ne (by omega)).trans ((congrArg (h 124) (show (Int.toNat ((15 + (11 * ((t0 : Nat) : Int))) + 0)) = (15 + 11 * t0) by omega)).trans (congrFun hN _))))))))))) (show 0 ≤ (N 5) ∧ (N 5) ≤ 12 by omega) (show Im ((t0 : Nat) : Int) (N 5) (0 ≤ (N (20 + 11 * t0)) ∧ (N (20 + 11 * t0)) ≤ 999) from fun _ _ => (by omega)) (fun t1_1_3 t10_2_3 c18_3_3 c31_4_3 c46_5_3 c84_7_3 c98_8_3 c119_9_3 c154_10_3 => ?_) (fun t1_1_3 t10_2_3 c18_3_3 c31_4_3 t35_11_3 c46_12_3 c55_14_3 c84_16_3 c98_17_3 c119_19_3 => ?_) (fun t1_1_3 t10_2_3 c18_3_3 c31_4_3 t35_11_3 c46_12_3 c55_14_3 => ?_) (fun t1_1_3 t10_2_3 c18_3_3 c31_4_3 t35_11_3 => ?_) (fun t1_1_3 t10_2_3 c18_3_3 t23_20_3 c31_21_3 c46_22_3 c84_24_3 c119_25_3 c154_26_3 => ?_) (fun t1_1_3 t10_2_3 c18_3_3 t23_20_3 => ?_) (fun t1_1_3 t10_2_3 => ?_) (fun t1_1_3 => ?_))
      · exact absurd c18_3_3 (by decide)
      · exact absurd c18_3_3 (by decide)
      · exact absurd c18_3_3 (by decide)
      · exact absurd c18_3_3 (by decide)
      · have t1_1_3 : 0 ≤ ((s0 : Nat) : Int) ∧ ((s0 : Nat) : Int) ≤ 4 := t1_1_3
        have t10_2_3 : (0 : Int) ≤ (1 : Int) ∧ (1 : Int) ≤ (3 : Int) := t10_2_3
        have c18_3_3 : (1 : Int) = (1 : Int) := c18_3_3
        have t23_20_3 : 0 ≤ ((t0 : Nat) : Int) ∧ ((t0 : Nat) : Int) < (N 5) := t23_20_3
        have c31_21_3 : ¬ (1 : Int) = (2 : Int) := c31_21_3
        have c46_22_3 : ¬ (1 : Int) = (2 : Int) := c46_22_3
        have c84_24_3 : (1 : Int) = (1 : Int) := c84_24_3
        have c119_25_3 : (1 : Int) = (1 : Int) := c119_25_3
        have c154_26_3 : ¬ (1 : Int) = (2 : Int) := c154_26_3
        show Aj γ mL_law d mc ms Post 1469 [(0, vK 0), (1, vA 0), (2, vA 123), (3, vI ((i : Nat) : Int))] [vI (h 148 s0), vI (h 148 s0)] (mk (up2 (up2 (up2 (upR (up2 (up2 (up2 (up2 (up2 (up2 (up2 (up2 h (98 + 5 * s0) 0 1) ((98 + 5 * s0) + 1) 0 (N (15 + 11 * t0))) ((98 + 5 * s0) + 1) 1 (N (16 + 11 * t0))) ((98 + 5 * s0) + 1) 2 (N (17 + 11 * t0))) ((98 + 5 * s0) + 1) 3 (N (18 + 11 * t0))) ((98 + 5 * s0) + 1) 4 (N (19 + 11 * t0))) ((98 + 5 * s0) + 1) 5 (N (20 + 11 * t0))) ((98 + 5 * s0) + 1) 6 (hsF (N (21 + 11 * t0)))) (((98 + 5 * s0) + 1) + 1) (cpy (h ((8 + 2 * t0) + 1)) (h (((98 + 5 * s0) + 1) + 1)) 0 0 4)) 148 s0 1) 149 s0 (N (15 + 11 * t0))) 150 s0 (farF (N (15 + 11 * t0)) (N (20 + 11 * t0)))) τ)
        refine a_icmp_eq (tgt := 1668) dL_law_1469 (by decide) (fun c1469_5 => ?_) (fun c1469_5 => ?_)
        · generalize hHH : (up2 (up2 (up2 (upR (up2 (up2 (up2 (up2 (up2 (up2 (up2 (up2 h (98 + 5 * s0) 0 1) ((98 + 5 * s0) + 1) 0 (N (15 + 11 * t0))) ((98 + 5 * s0) + 1) 1 (N (16 + 11 * t0))) ((98 + 5 * s0) + 1) 2 (N (17 + 11 * t0))) ((98 + 5 * s0) + 1) 3 (N (18 + 11 * t0))) ((98 + 5 * s0) + 1) 4 (N (19 + 11 * t0))) ((98 + 5 * s0) + 1) 5 (N (20 + 11 * t0))) ((98 + 5 * s0) + 1) 6 (hsF (N (21 + 11 * t0)))) (((98 + 5 * s0) + 1) + 1) (cpy (h ((8 + 2 * t0) + 1)) (h (((98 + 5 * s0) + 1) + 1)) 0 0 4)) 148 s0 1) 149 s0 (N (15 + 11 * t0))) 150 s0 (farF (N (15 + 11 * t0)) (N (20 + 11 * t0)))) = H
          have gR : ∀ c, (c < 98 ∨ 123 ≤ c) → c ≠ 148 → c ≠ 149 → c ≠ 150 → c ≠ 151 → H c = h c := fun c q0_ q1_ q2_ q3_ q4_ => by rw [← hHH]; exact ((up2_row (by omega)).trans ((up2_row (by omega)).trans ((up2_row (by omega)).trans ((upR_rn (by omega)).trans ((up2_row (by omega)).trans ((up2_row (by omega)).trans ((up2_row (by omega)).trans ((up2_row (by omega)).trans ((up2_row (by omega)).trans ((up2_row (by omega)).trans ((up2_row (by omega)).trans ((up2_row (by omega)).trans rfl))))))))))))
          have c0_ : H (98 + 5 * s0) 0 = 1 := by rw [← hHH]; exact ((up2_ne (by omega)).trans ((up2_ne (by omega)).trans ((up2_ne (by omega)).trans ((upR_ne (by omega)).trans ((up2_ne (by omega)).trans ((up2_ne (by omega)).trans ((up2_ne (by omega)).trans ((up2_ne (by omega)).trans ((up2_ne (by omega)).trans ((up2_ne (by omega)).trans ((up2_ne (by omega)).trans (up2_hit (by omega) (by omega)))))))))))))
          have x0_ : H 148 s0 = 1 := by rw [← hHH]; exact ((up2_ne (by omega)).trans ((up2_ne (by omega)).trans (up2_hit (by omega) (by omega))))
          have x9_ : H 149 s0 = (N (15 + 11 * t0)) := by rw [← hHH]; exact ((up2_ne (by omega)).trans (up2_hit (by omega) (by omega)))
          have xb_ : H 150 s0 = (farF (N (15 + 11 * t0)) (N (20 + 11 * t0))) := by rw [← hHH]; exact (up2_hit (by omega) (by omega))
          have eo_ : ∀ c, 98 ≤ c → c < 123 → (c < 98 + 5 * s0 ∨ 98 + 5 * s0 + 5 ≤ c) → H c = h c := fun c q0_ q1_ q2_ => by rw [← hHH]; exact ((up2_row (by omega)).trans ((up2_row (by omega)).trans ((up2_row (by omega)).trans ((upR_rn (by omega)).trans ((up2_row (by omega)).trans ((up2_row (by omega)).trans ((up2_row (by omega)).trans ((up2_row (by omega)).trans ((up2_row (by omega)).trans ((up2_row (by omega)).trans ((up2_row (by omega)).trans ((up2_row (by omega)).trans rfl))))))))))))
          have o8_ : ∀ k : Nat, k ≠ s0 → H 148 k = h 148 k := fun k q0_ => by rw [← hHH]; exact ((up2_ne (by omega)).trans ((up2_ne (by omega)).trans ((up2_ne (by omega)).trans ((upR_ne (by omega)).trans ((up2_ne (by omega)).trans ((up2_ne (by omega)).trans ((up2_ne (by omega)).trans ((up2_ne (by omega)).trans ((up2_ne (by omega)).trans ((up2_ne (by omega)).trans ((up2_ne (by omega)).trans ((up2_ne (by omega)).trans rfl))))))))))))
          have o9_ : ∀ k : Nat, k ≠ s0 → H 149 k = h 149 k := fun k q0_ => by rw [← hHH]; exact ((up2_ne (by omega)).trans ((up2_ne (by omega)).trans ((up2_ne (by omega)).trans ((upR_ne (by omega)).trans ((up2_ne (by omega)).trans ((up2_ne (by omega)).trans ((up2_ne (by omega)).trans ((up2_ne (by omega)).trans ((up2_ne (by omega)).trans ((up2_ne (by omega)).trans ((up2_ne (by omega)).trans ((up2_ne (by omega)).trans rfl))))))))))))
          have ob_ : ∀ k : Nat, k ≠ s0 → H 150 k = h 150 k := fun k q0_ => by rw [← hHH]; exact ((up2_ne (by omega)).trans ((up2_ne (by omega)).trans ((up2_ne (by omega)).trans ((upR_ne (by omega)).trans ((up2_ne (by omega)).trans ((up2_ne (by omega)).trans ((up2_ne (by omega)).trans ((up2_ne (by omega)).trans ((up2_ne (by omega)).trans ((up2_ne (by omega)).trans ((up2_ne (by omega)).trans ((up2_ne (by omega)).trans rfl))))))))))))
          have o1m : ∀ k : Nat, H 151 k = h 151 k := fun k  => by rw [← hHH]; exact ((up2_ne (by omega)).trans ((up2_ne (by omega)).trans ((up2_ne (by omega)).trans ((upR_ne (by omega)).trans ((up2_ne (by omega)).trans ((up2_ne (by omega)).trans ((up2_ne (by omega)).trans ((up2_ne (by omega)).trans ((up2_ne (by omega)).trans ((up2_ne (by omega)).trans ((up2_ne (by omega)).trans ((up2_ne (by omega)).trans rfl))))))))))))
          have o1_ : ∀ k : Nat, k < 24 * s0 ∨ 24 * s0 + 24 ≤ k → H 151 k = h 151 k := fun k _ => o1m k
          have y1_ : H ((98 + 5 * s0) + 3) 1 = h ((98 + 5 * s0) + 3) 1 := by rw [← hHH]; exact ((up2_ne (by omega)).trans ((up2_ne (by omega)).trans ((up2_ne (by omega)).trans ((upR_ne (by omega)).trans ((up2_ne (by omega)).trans ((up2_ne (by omega)).trans ((up2_ne (by omega)).trans ((up2_ne (by omega)).trans ((up2_ne (by omega)).trans ((up2_ne (by omega)).trans ((up2_ne (by omega)).trans ((up2_ne (by omega)).trans rfl))))))))))))
          have z0_ : H ((98 + 5 * s0) + 1) 0 = (N (15 + 11 * t0)) := by rw [← hHH]; exact ((up2_ne (by omega)).trans ((up2_ne (by omega)).trans ((up2_ne (by omega)).trans ((upR_ne (by omega)).trans ((up2_ne (by omega)).trans ((up2_ne (by omega)).trans ((up2_ne (by omega)).trans ((up2_ne (by omega)).trans ((up2_ne (by omega)).trans ((up2_ne (by omega)).trans (up2_hit (by omega) (by omega))))))))))))
          have z5_ : H ((98 + 5 * s0) + 1) 5 = (N (20 + 11 * t0)) := by rw [← hHH]; exact ((up2_ne (by omega)).trans ((up2_ne (by omega)).trans ((up2_ne (by omega)).trans ((upR_ne (by omega)).trans ((up2_ne (by omega)).trans (up2_hit (by omega) (by omega)))))))
          have nw : SLs H s0 := by
            unfold SLs
            rw [c0_, x0_, x9_, xb_, show H (98 + 5 * s0 + 1) 0 = _ from z0_, show H (98 + 5 * s0 + 1) 5 = _ from z5_, show H (98 + 5 * s0 + 3) 1 = _ from y1_]
            exact ⟨rfl, by omega, fun _ => ⟨rfl, by omega, rfl, by omega⟩, fun e => by omega, fun e => by omega, l5⟩
          have t1_ : H 84 1 = h 84 1 := by rw [← hHH]; exact ((up2_ne (by omega)).trans ((up2_ne (by omega)).trans ((up2_ne (by omega)).trans ((upR_ne (by omega)).trans ((up2_ne (by omega)).trans ((up2_ne (by omega)).trans ((up2_ne (by omega)).trans ((up2_ne (by omega)).trans ((up2_ne (by omega)).trans ((up2_ne (by omega)).trans ((up2_ne (by omega)).trans ((up2_ne (by omega)).trans rfl))))))))))))
          have t3_ : H 123 17 = h 123 17 := by rw [← hHH]; exact ((up2_ne (by omega)).trans ((up2_ne (by omega)).trans ((up2_ne (by omega)).trans ((upR_ne (by omega)).trans ((up2_ne (by omega)).trans ((up2_ne (by omega)).trans ((up2_ne (by omega)).trans ((up2_ne (by omega)).trans ((up2_ne (by omega)).trans ((up2_ne (by omega)).trans ((up2_ne (by omega)).trans ((up2_ne (by omega)).trans rfl))))))))))))
          have w0_ : H 0 12 = h 0 12 := by rw [← hHH]; exact ((up2_ne (by omega)).trans ((up2_ne (by omega)).trans ((up2_ne (by omega)).trans ((upR_ne (by omega)).trans ((up2_ne (by omega)).trans ((up2_ne (by omega)).trans ((up2_ne (by omega)).trans ((up2_ne (by omega)).trans ((up2_ne (by omega)).trans ((up2_ne (by omega)).trans ((up2_ne (by omega)).trans ((up2_ne (by omega)).trans rfl))))))))))))
          have w1_ : H 123 44 = h 123 44 := by rw [← hHH]; exact ((up2_ne (by omega)).trans ((up2_ne (by omega)).trans ((up2_ne (by omega)).trans ((upR_ne (by omega)).trans ((up2_ne (by omega)).trans ((up2_ne (by omega)).trans ((up2_ne (by omega)).trans ((up2_ne (by omega)).trans ((up2_ne (by omega)).trans ((up2_ne (by omega)).trans ((up2_ne (by omega)).trans ((up2_ne (by omega)).trans rfl))))))))))))
          have g0 : ∀ k : Nat, k ≠ 12 → H 0 k = h 0 k := fun k q0_ => by rw [← hHH]; exact ((up2_ne (by omega)).trans ((up2_ne (by omega)).trans ((up2_ne (by omega)).trans ((upR_ne (by omega)).trans ((up2_ne (by omega)).trans ((up2_ne (by omega)).trans ((up2_ne (by omega)).trans ((up2_ne (by omega)).trans ((up2_ne (by omega)).trans ((up2_ne (by omega)).trans ((up2_ne (by omega)).trans ((up2_ne (by omega)).trans rfl))))))))))))
          have gF : ∀ c, ((1 ≤ c ∧ c < 84) ∨ (124 ≤ c ∧ c < 137)) → H c = h c := fun c q0_ => by rw [← hHH]; exact ((up2_row (by omega)).trans ((up2_row (by omega)).trans ((up2_row (by omega)).trans ((upR_rn (by omega)).trans ((up2_row (by omega)).trans ((up2_row (by omega)).trans ((up2_row (by omega)).trans ((up2_row (by omega)).trans ((up2_row (by omega)).trans ((up2_row (by omega)).trans ((up2_row (by omega)).trans ((up2_row (by omega)).trans rfl))))))))))))
          have k3_ : H 123 3 = h 123 3 := by rw [← hHH]; exact ((up2_ne (by omega)).trans ((up2_ne (by omega)).trans ((up2_ne (by omega)).trans ((upR_ne (by omega)).trans ((up2_ne (by omega)).trans ((up2_ne (by omega)).trans ((up2_ne (by omega)).trans ((up2_ne (by omega)).trans ((up2_ne (by omega)).trans ((up2_ne (by omega)).trans ((up2_ne (by omega)).trans ((up2_ne (by omega)).trans rfl))))))))))))
          have k4_ : H 123 4 = h 123 4 := by rw [← hHH]; exact ((up2_ne (by omega)).trans ((up2_ne (by omega)).trans ((up2_ne (by omega)).trans ((upR_ne (by omega)).trans ((up2_ne (by omega)).trans ((up2_ne (by omega)).trans ((up2_ne (by omega)).trans ((up2_ne (by omega)).trans ((up2_ne (by omega)).trans ((up2_ne (by omega)).trans ((up2_ne (by omega)).trans ((up2_ne (by omega)).trans rfl))))))))))))
          have k9_ : H 123 9 = h 123 9 := by rw [← hHH]; exact ((up2_ne (by omega)).trans ((up2_ne (by omega)).trans ((up2_ne (by omega)).trans ((upR_ne (by omega)).trans ((up2_ne (by omega)).trans ((up2_ne (by omega)).trans ((up2_ne (by omega)).trans ((up2_ne (by omega)).trans ((up2_ne (by omega)).trans ((up2_ne (by omega)).trans ((up2_ne (by omega)).trans ((up2_ne (by omega)).trans rfl))))))))))))
          have g3 : ∀ k, k = 3 ∨ k = 4 ∨ k = 9 → H 123 k = h 123 k := fun k hk => by rcases hk with rfl | rfl | rfl; exact k3_; exact k4_; exact k9_
          exact kE H N J (IV_up (by omega) (IV_o hI gF g0 g3 ⟨TPE_fr t1_ (gR 85 (by omega) (by decide) (by decide) (by decide) (by decide)) t3_ (gR 137 (by omega) (by decide) (by decide) (by decide) (by decide)) hO.1, SHE_fr (fun c h1 h2 => gR c (by omega) (by omega) (by omega) (by omega) (by omega)) (gR 145 (by omega) (by decide) (by decide) (by decide) (by decide)) (gR 146 (by omega) (by decide) (by decide) (by decide) (by decide)) (gR 147 (by omega) (by decide) (by decide) (by decide) (by decide)) hO.2.1, SLE_u (by omega) eo_ o8_ o9_ ob_ o1_ nw hO.2.2.1, WTE_fr w0_ w1_ (gR 89 (by omega) (by decide) (by decide) (by decide) (by decide)) (gR 153 (by omega) (by decide) (by decide) (by decide) (by decide)) hO.2.2.2.1, CNE_fr (gR 138 (by omega) (by decide) (by decide) (by decide) (by decide)) (gR 139 (by omega) (by decide) (by decide) (by decide) (by decide)) hO.2.2.2.2⟩))
        · refine a_iconst dL_law_1472 ⟨by decide, by decide⟩ ?_
          exact a_zret dL_law_1473 rfl (by first | exact Or.inl rfl | exact Or.inr rfl | omega) (by exfalso; omega)
      · exfalso
        omega
      · exfalso
        omega
      · exfalso
        omega
    · have t1_1_1 : 0 ≤ ((s0 : Nat) : Int) ∧ ((s0 : Nat) : Int) ≤ 4 := t1_1_1
      have t10_2_1 : (0 : Int) ≤ (1 : Int) ∧ (1 : Int) ≤ (3 : Int) := t10_2_1
      have c21_3_1 : (1 : Int) = (1 : Int) := c21_3_1
      have t29_13_1 : ¬ (0 ≤ ((t0 : Nat) : Int) ∧ ((t0 : Nat) : Int) < (N 5)) := t29_13_1
      show Aj γ mL_law d mc ms Post 1450 [(0, vK 0), (1, vA 0), (2, vA 123), (3, vI ((i : Nat) : Int))] [vI (-1000000001)] (mk h τ)
      refine a_aload_n (j := 2) dL_law_1450 rfl rfl (Nat.le_of_ble_eq_true rfl) ?_
      refine a_aload_n (j := 0) dL_law_1451 rfl rfl (Nat.le_of_ble_eq_true rfl) ?_
      refine a_iload_n (j := 3) dL_law_1452 rfl rfl ?_
      refine a_iconst dL_law_1453 ⟨by decide, by decide⟩ ?_
      refine a_iadd (z := (((i : Nat) : Int) + 1)) dL_law_1454 (w_ok (by omega) (by omega)) ?_
      refine a_sld (i + 1) dL_law_1455 (by omega) (by omega) ?_
      rw [ha1]
      refine a_aload_n (j := 0) dL_law_1456 rfl rfl (Nat.le_of_ble_eq_true rfl) ?_
      refine a_iload_n (j := 3) dL_law_1457 rfl rfl ?_
      refine a_iconst dL_law_1458 ⟨by decide, by decide⟩ ?_
      refine a_iadd (z := (((i : Nat) : Int) + 2)) dL_law_1459 (w_ok (by omega) (by omega)) ?_
      refine a_sld (i + 2) dL_law_1460 (by omega) (by omega) ?_
      rw [ha2]
      refine a_aload_n (j := 0) dL_law_1461 rfl rfl (Nat.le_of_ble_eq_true rfl) ?_
      refine a_iload_n (j := 3) dL_law_1462 rfl rfl ?_
      refine a_iconst dL_law_1463 ⟨by decide, by decide⟩ ?_
      refine a_iadd (z := (((i : Nat) : Int) + 3)) dL_law_1464 (w_ok (by omega) (by omega)) ?_
      refine a_sld (i + 3) dL_law_1465 (by omega) (by omega) ?_
      rw [ha3]
      refine b_callV (d' := d - 1) (mc' := 0) (ms' := 0) (mc1 := mc) (ms1 := ms) (st := [vI (-1000000001)]) (b := 123) [vI ((s0 : Nat) : Int), vI 1, vI ((t0 : Nat) : Int)] dL_law_1466 mwX9_lay lkL_175 (by decide) rfl rc_X9 rfl (Nat.le_of_ble_eq_true rfl) (by omega) (by omega) (by omega) (c_X9_lay (v1 := (N 5)) (v2 := (N (20 + 11 * t0))) (v3 := (h 148 s0)) (v4 := (h 145 t0)) (v5 := (h 146 t0)) (f6 := (h 147)) (f7 := (h 151)) (v8 := (N (15 + 11 * t0))) (by omega)  (congrFun hN _) ((congrArg (h 124) (show (Int.toNat ((15 + (11 * ((t0 : Nat) : Int))) + 5)) = (20 + 11 * t0) by omega)).trans (congrFun hN _)) rfl rfl rfl rfl rfl ((congrArg (h 124) (show (Int.toNat ((15 + (11 * ((t0 : Nat) : Int))) + 0)) = (15 + 11 * t0) by omega)).trans (congrFun hN _)) (show 0 ≤ (N 5) ∧ (N 5) ≤ 12 by omega) (show Im ((t0 : Nat) : Int) (N 5) (0 ≤ (N (20 + 11 * t0)) ∧ (N (20 + 11 * t0)) ≤ 999) from fun _ _ => (by omega)) (fun t1_1_6 t10_2_6 c18_3_6 c31_4_6 c46_5_6 c84_7_6 c98_8_6 c119_9_6 c154_10_6 => ?_) (fun t1_1_6 t10_2_6 c18_3_6 c31_4_6 t35_11_6 c46_12_6 c55_14_6 c84_16_6 c98_17_6 c119_19_6 => ?_) (fun t1_1_6 t10_2_6 c18_3_6 c31_4_6 t35_11_6 c46_12_6 c55_14_6 => ?_) (fun t1_1_6 t10_2_6 c18_3_6 c31_4_6 t35_11_6 => ?_) (fun t1_1_6 t10_2_6 c18_3_6 t23_20_6 c31_21_6 c46_22_6 c84_24_6 c119_25_6 c154_26_6 => ?_) (fun t1_1_6 t10_2_6 c18_3_6 t23_20_6 => ?_) (fun t1_1_6 t10_2_6 => ?_) (fun t1_1_6 => ?_))
      · exact absurd c18_3_6 (by decide)
      · exact absurd c18_3_6 (by decide)
      · exact absurd c18_3_6 (by decide)
      · exact absurd c18_3_6 (by decide)
      · exfalso
        omega
      · have t1_1_6 : 0 ≤ ((s0 : Nat) : Int) ∧ ((s0 : Nat) : Int) ≤ 4 := t1_1_6
        have t10_2_6 : (0 : Int) ≤ (1 : Int) ∧ (1 : Int) ≤ (3 : Int) := t10_2_6
        have c18_3_6 : (1 : Int) = (1 : Int) := c18_3_6
        have t23_20_6 : ¬ (0 ≤ ((t0 : Nat) : Int) ∧ ((t0 : Nat) : Int) < (N 5)) := t23_20_6
        show Aj γ mL_law d mc ms Post 1469 [(0, vK 0), (1, vA 0), (2, vA 123), (3, vI ((i : Nat) : Int))] [vI (-1000000001), vI (-1000000001)] (mk h τ)
        refine a_icmp_eq (tgt := 1668) dL_law_1469 (by decide) (fun _ => ?_) (fun c => absurd c (by decide))
        exact kE h N J (IV_up (by omega) hI)
      · exfalso
        omega
      · exfalso
        omega
    · have t1_1_1 : 0 ≤ ((s0 : Nat) : Int) ∧ ((s0 : Nat) : Int) ≤ 4 := t1_1_1
      have t10_2_1 : ¬ ((0 : Int) ≤ (1 : Int) ∧ (1 : Int) ≤ (3 : Int)) := t10_2_1
      show Aj γ mL_law d mc ms Post 1450 [(0, vK 0), (1, vA 0), (2, vA 123), (3, vI ((i : Nat) : Int))] [vI (-1000000001)] (mk h τ)
      refine a_aload_n (j := 2) dL_law_1450 rfl rfl (Nat.le_of_ble_eq_true rfl) ?_
      refine a_aload_n (j := 0) dL_law_1451 rfl rfl (Nat.le_of_ble_eq_true rfl) ?_
      refine a_iload_n (j := 3) dL_law_1452 rfl rfl ?_
      refine a_iconst dL_law_1453 ⟨by decide, by decide⟩ ?_
      refine a_iadd (z := (((i : Nat) : Int) + 1)) dL_law_1454 (w_ok (by omega) (by omega)) ?_
      refine a_sld (i + 1) dL_law_1455 (by omega) (by omega) ?_
      rw [ha1]
      refine a_aload_n (j := 0) dL_law_1456 rfl rfl (Nat.le_of_ble_eq_true rfl) ?_
      refine a_iload_n (j := 3) dL_law_1457 rfl rfl ?_
      refine a_iconst dL_law_1458 ⟨by decide, by decide⟩ ?_
      refine a_iadd (z := (((i : Nat) : Int) + 2)) dL_law_1459 (w_ok (by omega) (by omega)) ?_
      refine a_sld (i + 2) dL_law_1460 (by omega) (by omega) ?_
      rw [ha2]
      refine a_aload_n (j := 0) dL_law_1461 rfl rfl (Nat.le_of_ble_eq_true rfl) ?_
      refine a_iload_n (j := 3) dL_law_1462 rfl rfl ?_
      refine a_iconst dL_law_1463 ⟨by decide, by decide⟩ ?_
      refine a_iadd (z := (((i : Nat) : Int) + 3)) dL_law_1464 (w_ok (by omega) (by omega)) ?_
      refine a_sld (i + 3) dL_law_1465 (by omega) (by omega) ?_
      rw [ha3]
      refine b_callV (d' := d - 1) (mc' := 0) (ms' := 0) (mc1 := mc) (ms1 := ms) (st := [vI (-1000000001)]) (b := 123) [vI ((s0 : Nat) : Int), vI 1, vI ((t0 : Nat) : Int)] dL_law_1466 mwX9_lay lkL_175 (by decide) rfl rc_X9 rfl (Nat.le_of_ble_eq_true rfl) (by omega) (by omega) (by omega) (c_X9_lay (v1 := (N 5)) (v2 := (N (20 + 11 * t0))) (v3 := (h 148 s0)) (v4 := (h 145 t0)) (v5 := (h 146 t0)) (f6 := (h 147)) (f7 := (h 151)) (v8 := (N (15 + 11 * t0))) (by omega)  (congrFun hN _) ((congrArg (h 124) (show (Int.toNat ((15 + (11 * ((t0 : Nat) : Int))) + 5)) = (20 + 11 * t0) by omega)).trans (congrFun hN _)) rfl rfl rfl rfl rfl ((congrArg (h 124) (show (Int.toNat ((15 + (11 * ((t0 : Nat) : Int))) + 0)) = (15 + 11 * t0) by omega)).trans (congrFun hN _)) (show 0 ≤ (N 5) ∧ (N 5) ≤ 12 by omega) (show Im ((t0 : Nat) : Int) (N 5) (0 ≤ (N (20 + 11 * t0)) ∧ (N (20 + 11 * t0)) ≤ 999) from fun _ _ => (by omega)) (fun t1_1_8 t10_2_8 c18_3_8 c31_4_8 c46_5_8 c84_7_8 c98_8_8 c119_9_8 c154_10_8 => ?_) (fun t1_1_8 t10_2_8 c18_3_8 c31_4_8 t35_11_8 c46_12_8 c55_14_8 c84_16_8 c98_17_8 c119_19_8 => ?_) (fun t1_1_8 t10_2_8 c18_3_8 c31_4_8 t35_11_8 c46_12_8 c55_14_8 => ?_) (fun t1_1_8 t10_2_8 c18_3_8 c31_4_8 t35_11_8 => ?_) (fun t1_1_8 t10_2_8 c18_3_8 t23_20_8 c31_21_8 c46_22_8 c84_24_8 c119_25_8 c154_26_8 => ?_) (fun t1_1_8 t10_2_8 c18_3_8 t23_20_8 => ?_) (fun t1_1_8 t10_2_8 => ?_) (fun t1_1_8 => ?_))
      · exact absurd c18_3_8 (by decide)
      · exact absurd c18_3_8 (by decide)
      · exact absurd c18_3_8 (by decide)
      · exact absurd c18_3_8 (by decide)
      · exfalso
        omega
      · exfalso
        omega
      · have t1_1_8 : 0 ≤ ((s0 : Nat) : Int) ∧ ((s0 : Nat) : Int) ≤ 4 := t1_1_8
        have t10_2_8 : ¬ ((0 : Int) ≤ (1 : Int) ∧ (1 : Int) ≤ (3 : Int)) := t10_2_8
        show Aj γ mL_law d mc ms Post 1469 [(0, vK 0), (1, vA 0), (2, vA 123), (3, vI ((i : Nat) : Int))] [vI (-1000000001), vI (-1000000001)] (mk h τ)
        refine a_icmp_eq (tgt := 1668) dL_law_1469 (by decide) (fun _ => ?_) (fun c => absurd c (by decide))
        exact kE h N J (IV_up (by omega) hI)
      · exfalso
        omega
    · exfalso
      omega
  · obtain ⟨s0, rfl⟩ : ∃ z : Nat, a1 = (z : Int) := ⟨Int.toNat a1, by omega⟩
    obtain ⟨l0, l1, l2, l3, l4, l5⟩ := hO.2.2.1 s0 (by omega)
    obtain ⟨b0, rfl⟩ : ∃ z : Nat, a3 = (z : Int) := ⟨Int.toNat a3, by omega⟩
    obtain ⟨m0, m1, m2, m3, m4⟩ := hO.2.1 b0 (by omega)
    obtain rfl : a2 = 2 := hin.2.1
    have y5 : ((b0 : Nat) : Int) < N 5 → 0 ≤ N (20 + 11 * b0) ∧ N (20 + 11 * b0) ≤ 999 := fun p => (hX.1.2.2.1 b0 p).2.2.2.2.2.1
    refine a_aload_n (j := 1) dL_law_1431 rfl rfl (Nat.le_of_ble_eq_true rfl) ?_
    refine a_aload_n (j := 0) dL_law_1432 rfl rfl (Nat.le_of_ble_eq_true rfl) ?_
    refine a_iload_n (j := 3) dL_law_1433 rfl rfl ?_
    refine a_iconst dL_law_1434 ⟨by decide, by decide⟩ ?_
    refine a_iadd (z := (((i : Nat) : Int) + 1)) dL_law_1435 (w_ok (by omega) (by omega)) ?_
    refine a_sld (i + 1) dL_law_1436 (by omega) (by omega) ?_
    rw [ha1]
    refine a_aload_n (j := 0) dL_law_1437 rfl rfl (Nat.le_of_ble_eq_true rfl) ?_
    refine a_iload_n (j := 3) dL_law_1438 rfl rfl ?_
    refine a_iconst dL_law_1439 ⟨by decide, by decide⟩ ?_
    refine a_iadd (z := (((i : Nat) : Int) + 2)) dL_law_1440 (w_ok (by omega) (by omega)) ?_
    refine a_sld (i + 2) dL_law_1441 (by omega) (by omega) ?_
    rw [ha2]
    refine a_aload_n (j := 0) dL_law_1442 rfl rfl (Nat.le_of_ble_eq_true rfl) ?_
    refine a_iload_n (j := 3) dL_law_1443 rfl rfl ?_
    refine a_iconst dL_law_1444 ⟨by decide, by decide⟩ ?_
    refine a_iadd (z := (((i : Nat) : Int) + 3)) dL_law_1445 (w_ok (by omega) (by omega)) ?_
    refine a_sld (i + 3) dL_law_1446 (by omega) (by omega) ?_
    rw [ha3]
    refine b_callV (d' := d - 1) (mc' := 0) (ms' := 0) (mc1 := mc) (ms1 := ms) (st := []) (b := 0) [vI ((s0 : Nat) : Int), vI 2, vI ((b0 : Nat) : Int)] dL_law_1447 mwX8_lay lkL_172 (by decide) rfl rc_X8 rfl (Nat.le_of_ble_eq_true rfl) (by omega) (by omega) (by omega) (c_X8_lay (v1 := (N 5)) (v2 := (h 148 s0)) (v3 := (h 145 b0)) (v4 := (h 146 b0)) (f5 := (h ((90 + 2 * b0) + 1))) (f6 := (h (((98 + 5 * s0) + 3) + 1))) (v7 := (h (8 + 2 * b0) 0)) (v8 := (h (8 + 2 * b0) 1)) (v9 := (h (8 + 2 * b0) 2)) (v10 := (h (8 + 2 * b0) 3)) (v11 := (h (8 + 2 * b0) 4)) (v12 := (h (8 + 2 * b0) 5)) (v13 := (h (8 + 2 * b0) 6)) (f14 := (h ((8 + 2 * b0) + 1))) (f15 := (h (((98 + 5 * s0) + 1) + 1))) (by omega)  hR.1.2.1 l0 m0 m1 rfl rfl rfl rfl rfl rfl rfl rfl rfl rfl rfl (show 0 ≤ (N 5) ∧ (N 5) ≤ 12 by omega) (fun t1_1_1 t10_2_1 c21_3_1 c37_4_1 c52_5_1 c95_6_1 c120_7_1 => ?_) (fun t1_1_1 t10_2_1 c21_3_1 c37_4_1 t41_8_1 c52_9_1 c65_10_1 c95_11_1 c120_12_1 => ?_) (fun t1_1_1 t10_2_1 c21_3_1 c37_4_1 t41_8_1 c52_9_1 c65_10_1 => ?_) (fun t1_1_1 t10_2_1 c21_3_1 c37_4_1 t41_8_1 => ?_) (fun t1_1_1 t10_2_1 c21_3_1 t29_13_1 c37_14_1 c52_15_1 c95_16_1 => ?_) (fun t1_1_1 t10_2_1 c21_3_1 t29_13_1 => ?_) (fun t1_1_1 t10_2_1 => ?_) (fun t1_1_1 => ?_))
    · exact absurd c37_4_1 (by decide)
    · have t1_1_1 : 0 ≤ ((s0 : Nat) : Int) ∧ ((s0 : Nat) : Int) ≤ 4 := t1_1_1
      have t10_2_1 : (0 : Int) ≤ (2 : Int) ∧ (2 : Int) ≤ (3 : Int) := t10_2_1
      have c21_3_1 : ¬ (2 : Int) = (1 : Int) := c21_3_1
      have c37_4_1 : (2 : Int) = (2 : Int) := c37_4_1
      have t41_8_1 : 0 ≤ ((b0 : Nat) : Int) ∧ ((b0 : Nat) : Int) ≤ 3 := t41_8_1
      have c52_9_1 : (2 : Int) = (2 : Int) := c52_9_1
      have c65_10_1 : ¬ (h 145 b0) = (-1) := c65_10_1
      have c95_11_1 : ¬ (2 : Int) = (1 : Int) := c95_11_1
      have c120_12_1 : (2 : Int) = (2 : Int) := c120_12_1
      show Aj γ mL_law d mc ms Post 1450 [(0, vK 0), (1, vA 0), (2, vA 123), (3, vI ((i : Nat) : Int))] [vI (h 148 s0)] (mk (upR (up2 (up2 (up2 h (98 + 5 * s0) 0 2) ((98 + 5 * s0) + 3) 0 (h 145 b0)) ((98 + 5 * s0) + 3) 1 (h 146 b0)) (((98 + 5 * s0) + 3) + 1) (cpy (h ((90 + 2 * b0) + 1)) (h (((98 + 5 * s0) + 3) + 1)) 0 0 24)) τ)
      refine a_aload_n (j := 2) dL_law_1450 rfl rfl (Nat.le_of_ble_eq_true rfl) ?_
      refine a_aload_n (j := 0) dL_law_1451 rfl rfl (Nat.le_of_ble_eq_true rfl) ?_
      refine a_iload_n (j := 3) dL_law_1452 rfl rfl ?_
      refine a_iconst dL_law_1453 ⟨by decide, by decide⟩ ?_
      refine a_iadd (z := (((i : Nat) : Int) + 1)) dL_law_1454 (w_ok (by omega) (by omega)) ?_
      refine a_sld (i + 1) dL_law_1455 (by omega) (by omega) ?_
      rw [ha1]
      refine a_aload_n (j := 0) dL_law_1456 rfl rfl (Nat.le_of_ble_eq_true rfl) ?_
      refine a_iload_n (j := 3) dL_law_1457 rfl rfl ?_
      refine a_iconst dL_law_1458 ⟨by decide, by decide⟩ ?_
      refine a_iadd (z := (((i : Nat) : Int) + 2)) dL_law_1459 (w_ok (by omega) (by omega)) ?_
      refine a_sld (i + 2) dL_law_1460 (by omega) (by omega) ?_
      rw [ha2]
      refine a_aload_n (j := 0) dL_law_1461 rfl rfl (Nat.le_of_ble_eq_true rfl) ?_
      refine a_iload_n (j := 3) dL_law_1462 rfl rfl ?_
      refine a_iconst dL_law_1463 ⟨by decide, by decide⟩ ?_
      refine a_iadd (z := (((i : Nat) : Int) + 3)) dL_law_1464 (w_ok (by omega) (by omega)) ?_
      refine a_sld (i + 3) dL_law_1465 (by omega) (by omega) ?_
      rw [ha3]
      refine b_callV (d' := d - 1) (mc' := 0) (ms' := 0) (mc1 := mc) (ms1 := ms) (st := [vI (h 148 s0)]) (b := 123) [vI ((s0 : Nat) : Int), vI 2, vI ((b0 : Nat) : Int)] dL_law_1466 mwX9_lay lkL_175 (by decide) rfl rc_X9 rfl (Nat.le_of_ble_eq_true rfl) (by omega) (by omega) (by omega) (c_X9_lay (v1 := (N 5)) (v2 := (N (20 + 11 * b0))) (v3 := (h 148 s0)) (v4 := (h 145 b0)) (v5 := (h 146 b0)) (f6 := (h 147)) (f7 := (h 151)) (v8 := (N (15 + 11 * b0))) (by omega)  ((upR_ne (by omega)).trans ((up2_ne (by omega)).trans ((up2_ne (by omega)).trans ((up2_ne (by omega)).trans (congrFun hN _))))) ((upR_ne (by omega)).trans ((up2_ne (by omega)).trans ((up2_ne (by omega)).trans ((up2_ne (by omega)).trans ((congrArg (h 124) (show (Int.toNat ((15 + (11 * ((b0 : Nat) : Int))) + 5)) = (20 + 11 * b0) by omega)).trans (congrFun hN _)))))) ((upR_ne (by omega)).trans ((up2_ne (by omega)).trans ((up2_ne (by omega)).trans ((up2_ne (by omega)).trans rfl)))) ((upR_ne (by omega)).trans ((up2_ne (by omega)).trans ((up2_ne (by omega)).trans ((up2_ne (by omega)).trans rfl)))) ((upR_ne (by omega)).trans ((up2_ne (by omega)).trans ((up2_ne (by omega)).trans ((up2_ne (by omega)).trans rfl)))) ((upR_rn (by omega)).trans ((up2_row (by omega)).trans ((up2_row (by omega)).trans ((up2_row (by omega)).trans rfl)))) ((upR_rn (by omega)).trans ((up2_row (by omega)).trans ((up2_row (by omega)).trans ((up2_row (by omega)).trans rfl)))) ((upR_ne (by omega)).trans ((up2_ne (by omega)).trans ((up2_ne (by omega)).trans ((up2_ne (by omega)).trans ((congrArg (h 124) (show (Int.toNat ((15 + (11 * ((b0 : Nat) : Int))) + 0)) = (15 + 11 * b0) by omega)).trans (congrFun hN _)))))) (show 0 ≤ (N 5) ∧ (N 5) ≤ 12 by omega) (show Im ((b0 : Nat) : Int) (N 5) (0 ≤ (N (20 + 11 * b0)) ∧ (N (20 + 11 * b0)) ≤ 999) from fun _ _ => (by omega)) (fun t1_1_3 t10_2_3 c18_3_3 c31_4_3 c46_5_3 c84_7_3 c98_8_3 c119_9_3 c154_10_3 => ?_) (fun t1_1_3 t10_2_3 c18_3_3 c31_4_3 t35_11_3 c46_12_3 c55_14_3 c84_16_3 c98_17_3 c119_19_3 => ?_) (fun t1_1_3 t10_2_3 c18_3_3 c31_4_3 t35_11_3 c46_12_3 c55_14_3 => ?_) (fun t1_1_3 t10_2_3 c18_3_3 c31_4_3 t35_11_3 => ?_) (fun t1_1_3 t10_2_3 c18_3_3 t23_20_3 c31_21_3 c46_22_3 c84_24_3 c119_25_3 c154_26_3 => ?_) (fun t1_1_3 t10_2_3 c18_3_3 t23_20_3 => ?_) (fun t1_1_3 t10_2_3 => ?_) (fun t1_1_3 => ?_))
      · exact absurd c31_4_3 (by decide)
      · have t1_1_3 : 0 ≤ ((s0 : Nat) : Int) ∧ ((s0 : Nat) : Int) ≤ 4 := t1_1_3
        have t10_2_3 : (0 : Int) ≤ (2 : Int) ∧ (2 : Int) ≤ (3 : Int) := t10_2_3
        have c18_3_3 : ¬ (2 : Int) = (1 : Int) := c18_3_3
        have c31_4_3 : (2 : Int) = (2 : Int) := c31_4_3
        have t35_11_3 : 0 ≤ ((b0 : Nat) : Int) ∧ ((b0 : Nat) : Int) ≤ 3 := t35_11_3
        have c46_12_3 : (2 : Int) = (2 : Int) := c46_12_3
        have c55_14_3 : 0 ≤ (h 145 b0) := c55_14_3
        have c84_16_3 : ¬ (2 : Int) = (1 : Int) := c84_16_3
        have c98_17_3 : (2 : Int) = (2 : Int) := c98_17_3
        have c119_19_3 : ¬ (2 : Int) = (1 : Int) := c119_19_3
        show Aj γ mL_law d mc ms Post 1469 [(0, vK 0), (1, vA 0), (2, vA 123), (3, vI ((i : Nat) : Int))] [vI (h 148 s0), vI (h 148 s0)] (mk (upR (up2 (up2 (up2 (upR (up2 (up2 (up2 h (98 + 5 * s0) 0 2) ((98 + 5 * s0) + 3) 0 (h 145 b0)) ((98 + 5 * s0) + 3) 1 (h 146 b0)) (((98 + 5 * s0) + 3) + 1) (cpy (h ((90 + 2 * b0) + 1)) (h (((98 + 5 * s0) + 3) + 1)) 0 0 24)) 148 s0 2) 149 s0 (h 146 b0)) 150 s0 0) 151 (cpy (h 147) (h 151) (Int.toNat (24 * ((b0 : Nat) : Int))) (Int.toNat (24 * ((s0 : Nat) : Int))) 24)) τ)
        refine a_icmp_eq (tgt := 1668) dL_law_1469 (by decide) (fun c1469_5 => ?_) (fun c1469_5 => ?_)
        · generalize hHH : (upR (up2 (up2 (up2 (upR (up2 (up2 (up2 h (98 + 5 * s0) 0 2) ((98 + 5 * s0) + 3) 0 (h 145 b0)) ((98 + 5 * s0) + 3) 1 (h 146 b0)) (((98 + 5 * s0) + 3) + 1) (cpy (h ((90 + 2 * b0) + 1)) (h (((98 + 5 * s0) + 3) + 1)) 0 0 24)) 148 s0 2) 149 s0 (h 146 b0)) 150 s0 0) 151 (cpy (h 147) (h 151) (Int.toNat (24 * ((b0 : Nat) : Int))) (Int.toNat (24 * ((s0 : Nat) : Int))) 24)) = H
          have gR : ∀ c, (c < 98 ∨ 123 ≤ c) → c ≠ 148 → c ≠ 149 → c ≠ 150 → c ≠ 151 → H c = h c := fun c q0_ q1_ q2_ q3_ q4_ => by rw [← hHH]; exact ((upR_rn (by omega)).trans ((up2_row (by omega)).trans ((up2_row (by omega)).trans ((up2_row (by omega)).trans ((upR_rn (by omega)).trans ((up2_row (by omega)).trans ((up2_row (by omega)).trans ((up2_row (by omega)).trans rfl))))))))
          have c0_ : H (98 + 5 * s0) 0 = 2 := by rw [← hHH]; exact ((upR_ne (by omega)).trans ((up2_ne (by omega)).trans ((up2_ne (by omega)).trans ((up2_ne (by omega)).trans ((upR_ne (by omega)).trans ((up2_ne (by omega)).trans ((up2_ne (by omega)).trans (up2_hit (by omega) (by omega)))))))))
          have x0_ : H 148 s0 = 2 := by rw [← hHH]; exact ((upR_ne (by omega)).trans ((up2_ne (by omega)).trans ((up2_ne (by omega)).trans (up2_hit (by omega) (by omega)))))
          have x9_ : H 149 s0 = (h 146 b0) := by rw [← hHH]; exact ((upR_ne (by omega)).trans ((up2_ne (by omega)).trans (up2_hit (by omega) (by omega))))
          have xb_ : H 150 s0 = 0 := by rw [← hHH]; exact ((upR_ne (by omega)).trans (up2_hit (by omega) (by omega)))
          have eo_ : ∀ c, 98 ≤ c → c < 123 → (c < 98 + 5 * s0 ∨ 98 + 5 * s0 + 5 ≤ c) → H c = h c := fun c q0_ q1_ q2_ => by rw [← hHH]; exact ((upR_rn (by omega)).trans ((up2_row (by omega)).trans ((up2_row (by omega)).trans ((up2_row (by omega)).trans ((upR_rn (by omega)).trans ((up2_row (by omega)).trans ((up2_row (by omega)).trans ((up2_row (by omega)).trans rfl))))))))
          have o8_ : ∀ k : Nat, k ≠ s0 → H 148 k = h 148 k := fun k q0_ => by rw [← hHH]; exact ((upR_ne (by omega)).trans ((up2_ne (by omega)).trans ((up2_ne (by omega)).trans ((up2_ne (by omega)).trans ((upR_ne (by omega)).trans ((up2_ne (by omega)).trans ((up2_ne (by omega)).trans ((up2_ne (by omega)).trans rfl))))))))
          have o9_ : ∀ k : Nat, k ≠ s0 → H 149 k = h 149 k := fun k q0_ => by rw [← hHH]; exact ((upR_ne (by omega)).trans ((up2_ne (by omega)).trans ((up2_ne (by omega)).trans ((up2_ne (by omega)).trans ((upR_ne (by omega)).trans ((up2_ne (by omega)).trans ((up2_ne (by omega)).trans ((up2_ne (by omega)).trans rfl))))))))
          have ob_ : ∀ k : Nat, k ≠ s0 → H 150 k = h 150 k := fun k q0_ => by rw [← hHH]; exact ((upR_ne (by omega)).trans ((up2_ne (by omega)).trans ((up2_ne (by omega)).trans ((up2_ne (by omega)).trans ((upR_ne (by omega)).trans ((up2_ne (by omega)).trans ((up2_ne (by omega)).trans ((up2_ne (by omega)).trans rfl))))))))
          have o1g : ∀ k : Nat, H 151 k = ((cpy (h 147) (h 151) (Int.toNat (24 * ((b0 : Nat) : Int))) (Int.toNat (24 * ((s0 : Nat) : Int))) 24) k) := fun k => by rw [← hHH]; exact (upR_hit (by omega))
          have o1_ : ∀ k : Nat, k < 24 * s0 ∨ 24 * s0 + 24 ≤ k → H 151 k = h 151 k := fun k hk => by rw [o1g]; unfold cpy; rw [if_neg (by omega)]
          have y1_ : H ((98 + 5 * s0) + 3) 1 = (h 146 b0) := by rw [← hHH]; exact ((upR_ne (by omega)).trans ((up2_ne (by omega)).trans ((up2_ne (by omega)).trans ((up2_ne (by omega)).trans ((upR_ne (by omega)).trans (up2_hit (by omega) (by omega)))))))
          have y4_ : ∀ k : Nat, H (((98 + 5 * s0) + 3) + 1) k = ((cpy (h ((90 + 2 * b0) + 1)) (h (((98 + 5 * s0) + 3) + 1)) 0 0 24) k) := fun k => by rw [← hHH]; exact ((upR_ne (by omega)).trans ((up2_ne (by omega)).trans ((up2_ne (by omega)).trans ((up2_ne (by omega)).trans (upR_hit (by omega))))))
          have nw : SLs H s0 := by
            unfold SLs
            rw [c0_, x0_, x9_]
            refine ⟨rfl, by omega, fun e => by omega, fun _ => ⟨y1_, by omega, fun k hk => ?_⟩, fun e => by omega, by rw [show H (98 + 5 * s0 + 3) 1 = _ from y1_]; omega⟩
            rw [show H (98 + 5 * s0 + 4) k = _ from y4_ k, cpy_lt hk, o1g]; unfold cpy; rw [if_pos (by omega), show Int.toNat (24 * ((b0 : Nat) : Int)) + (24 * s0 + k - Int.toNat (24 * ((s0 : Nat) : Int))) = 24 * b0 + k by omega]
            exact m4 k hk
          have t1_ : H 84 1 = h 84 1 := by rw [← hHH]; exact ((upR_ne (by omega)).trans ((up2_ne (by omega)).trans ((up2_ne (by omega)).trans ((up2_ne (by omega)).trans ((upR_ne (by omega)).trans ((up2_ne (by omega)).trans ((up2_ne (by omega)).trans ((up2_ne (by omega)).trans rfl))))))))
          have t3_ : H 123 17 = h 123 17 := by rw [← hHH]; exact ((upR_ne (by omega)).trans ((up2_ne (by omega)).trans ((up2_ne (by omega)).trans ((up2_ne (by omega)).trans ((upR_ne (by omega)).trans ((up2_ne (by omega)).trans ((up2_ne (by omega)).trans ((up2_ne (by omega)).trans rfl))))))))
          have w0_ : H 0 12 = h 0 12 := by rw [← hHH]; exact ((upR_ne (by omega)).trans ((up2_ne (by omega)).trans ((up2_ne (by omega)).trans ((up2_ne (by omega)).trans ((upR_ne (by omega)).trans ((up2_ne (by omega)).trans ((up2_ne (by omega)).trans ((up2_ne (by omega)).trans rfl))))))))
          have w1_ : H 123 44 = h 123 44 := by rw [← hHH]; exact ((upR_ne (by omega)).trans ((up2_ne (by omega)).trans ((up2_ne (by omega)).trans ((up2_ne (by omega)).trans ((upR_ne (by omega)).trans ((up2_ne (by omega)).trans ((up2_ne (by omega)).trans ((up2_ne (by omega)).trans rfl))))))))
          have g0 : ∀ k : Nat, k ≠ 12 → H 0 k = h 0 k := fun k q0_ => by rw [← hHH]; exact ((upR_ne (by omega)).trans ((up2_ne (by omega)).trans ((up2_ne (by omega)).trans ((up2_ne (by omega)).trans ((upR_ne (by omega)).trans ((up2_ne (by omega)).trans ((up2_ne (by omega)).trans ((up2_ne (by omega)).trans rfl))))))))
          have gF : ∀ c, ((1 ≤ c ∧ c < 84) ∨ (124 ≤ c ∧ c < 137)) → H c = h c := fun c q0_ => by rw [← hHH]; exact ((upR_rn (by omega)).trans ((up2_row (by omega)).trans ((up2_row (by omega)).trans ((up2_row (by omega)).trans ((upR_rn (by omega)).trans ((up2_row (by omega)).trans ((up2_row (by omega)).trans ((up2_row (by omega)).trans rfl))))))))
          have k3_ : H 123 3 = h 123 3 := by rw [← hHH]; exact ((upR_ne (by omega)).trans ((up2_ne (by omega)).trans ((up2_ne (by omega)).trans ((up2_ne (by omega)).trans ((upR_ne (by omega)).trans ((up2_ne (by omega)).trans ((up2_ne (by omega)).trans ((up2_ne (by omega)).trans rfl))))))))
          have k4_ : H 123 4 = h 123 4 := by rw [← hHH]; exact ((upR_ne (by omega)).trans ((up2_ne (by omega)).trans ((up2_ne (by omega)).trans ((up2_ne (by omega)).trans ((upR_ne (by omega)).trans ((up2_ne (by omega)).trans ((up2_ne (by omega)).trans ((up2_ne (by omega)).trans rfl))))))))
          have k9_ : H 123 9 = h 123 9 := by rw [← hHH]; exact ((upR_ne (by omega)).trans ((up2_ne (by omega)).trans ((up2_ne (by omega)).trans ((up2_ne (by omega)).trans ((upR_ne (by omega)).trans ((up2_ne (by omega)).trans ((up2_ne (by omega)).trans ((up2_ne (by omega)).trans rfl))))))))
          have g3 : ∀ k, k = 3 ∨ k = 4 ∨ k = 9 → H 123 k = h 123 k := fun k hk => by rcases hk with rfl | rfl | rfl; exact k3_; exact k4_; exact k9_
          exact kE H N J (IV_up (by omega) (IV_o hI gF g0 g3 ⟨TPE_fr t1_ (gR 85 (by omega) (by decide) (by decide) (by decide) (by decide)) t3_ (gR 137 (by omega) (by decide) (by decide) (by decide) (by decide)) hO.1, SHE_fr (fun c h1 h2 => gR c (by omega) (by omega) (by omega) (by omega) (by omega)) (gR 145 (by omega) (by decide) (by decide) (by decide) (by decide)) (gR 146 (by omega) (by decide) (by decide) (by decide) (by decide)) (gR 147 (by omega) (by decide) (by decide) (by decide) (by decide)) hO.2.1, SLE_u (by omega) eo_ o8_ o9_ ob_ o1_ nw hO.2.2.1, WTE_fr w0_ w1_ (gR 89 (by omega) (by decide) (by decide) (by decide) (by decide)) (gR 153 (by omega) (by decide) (by decide) (by decide) (by decide)) hO.2.2.2.1, CNE_fr (gR 138 (by omega) (by decide) (by decide) (by decide) (by decide)) (gR 139 (by omega) (by decide) (by decide) (by decide) (by decide)) hO.2.2.2.2⟩))
        · refine a_iconst dL_law_1472 ⟨by decide, by decide⟩ ?_
          exact a_zret dL_law_1473 rfl (by first | exact Or.inl rfl | exact Or.inr rfl | omega) (by exfalso; omega)
      · have t1_1_3 : 0 ≤ ((s0 : Nat) : Int) ∧ ((s0 : Nat) : Int) ≤ 4 := t1_1_3
        have t10_2_3 : (0 : Int) ≤ (2 : Int) ∧ (2 : Int) ≤ (3 : Int) := t10_2_3
        have c18_3_3 : ¬ (2 : Int) = (1 : Int) := c18_3_3
        have c31_4_3 : (2 : Int) = (2 : Int) := c31_4_3
        have t35_11_3 : 0 ≤ ((b0 : Nat) : Int) ∧ ((b0 : Nat) : Int) ≤ 3 := t35_11_3
        have c46_12_3 : (2 : Int) = (2 : Int) := c46_12_3
        have c55_14_3 : ¬ 0 ≤ (h 145 b0) := c55_14_3
        show Aj γ mL_law d mc ms Post 1469 [(0, vK 0), (1, vA 0), (2, vA 123), (3, vI ((i : Nat) : Int))] [vI (-1000000011), vI (h 148 s0)] (mk (upR (up2 (up2 (up2 h (98 + 5 * s0) 0 2) ((98 + 5 * s0) + 3) 0 (h 145 b0)) ((98 + 5 * s0) + 3) 1 (h 146 b0)) (((98 + 5 * s0) + 3) + 1) (cpy (h ((90 + 2 * b0) + 1)) (h (((98 + 5 * s0) + 3) + 1)) 0 0 24)) τ)
        refine a_icmp_eq (tgt := 1668) dL_law_1469 (by decide) (fun c1469_6 => ?_) (fun c1469_6 => ?_)
        · exfalso
          omega
        · refine a_iconst dL_law_1472 ⟨by decide, by decide⟩ ?_
          exact a_zret dL_law_1473 rfl (by first | exact Or.inl rfl | exact Or.inr rfl | omega) (by exfalso; omega)
      · exfalso
        omega
      · exact absurd c18_3_3 (by decide)
      · exact absurd c18_3_3 (by decide)
      · exfalso
        omega
      · exfalso
        omega
    · have t1_1_1 : 0 ≤ ((s0 : Nat) : Int) ∧ ((s0 : Nat) : Int) ≤ 4 := t1_1_1
      have t10_2_1 : (0 : Int) ≤ (2 : Int) ∧ (2 : Int) ≤ (3 : Int) := t10_2_1
      have c21_3_1 : ¬ (2 : Int) = (1 : Int) := c21_3_1
      have c37_4_1 : (2 : Int) = (2 : Int) := c37_4_1
      have t41_8_1 : 0 ≤ ((b0 : Nat) : Int) ∧ ((b0 : Nat) : Int) ≤ 3 := t41_8_1
      have c52_9_1 : (2 : Int) = (2 : Int) := c52_9_1
      have c65_10_1 : (h 145 b0) = (-1) := c65_10_1
      show Aj γ mL_law d mc ms Post 1450 [(0, vK 0), (1, vA 0), (2, vA 123), (3, vI ((i : Nat) : Int))] [vI (-1000000011)] (mk h τ)
      refine a_aload_n (j := 2) dL_law_1450 rfl rfl (Nat.le_of_ble_eq_true rfl) ?_
      refine a_aload_n (j := 0) dL_law_1451 rfl rfl (Nat.le_of_ble_eq_true rfl) ?_
      refine a_iload_n (j := 3) dL_law_1452 rfl rfl ?_
      refine a_iconst dL_law_1453 ⟨by decide, by decide⟩ ?_
      refine a_iadd (z := (((i : Nat) : Int) + 1)) dL_law_1454 (w_ok (by omega) (by omega)) ?_
      refine a_sld (i + 1) dL_law_1455 (by omega) (by omega) ?_
      rw [ha1]
      refine a_aload_n (j := 0) dL_law_1456 rfl rfl (Nat.le_of_ble_eq_true rfl) ?_
      refine a_iload_n (j := 3) dL_law_1457 rfl rfl ?_
      refine a_iconst dL_law_1458 ⟨by decide, by decide⟩ ?_
      refine a_iadd (z := (((i : Nat) : Int) + 2)) dL_law_1459 (w_ok (by omega) (by omega)) ?_
      refine a_sld (i + 2) dL_law_1460 (by omega) (by omega) ?_
      rw [ha2]
      refine a_aload_n (j := 0) dL_law_1461 rfl rfl (Nat.le_of_ble_eq_true rfl) ?_
      refine a_iload_n (j := 3) dL_law_1462 rfl rfl ?_
      refine a_iconst dL_law_1463 ⟨by decide, by decide⟩ ?_
      refine a_iadd (z := (((i : Nat) : Int) + 3)) dL_law_1464 (w_ok (by omega) (by omega)) ?_
      refine a_sld (i + 3) dL_law_1465 (by omega) (by omega) ?_
      rw [ha3]
      refine b_callV (d' := d - 1) (mc' := 0) (ms' := 0) (mc1 := mc) (ms1 := ms) (st := [vI (-1000000011)]) (b := 123) [vI ((s0 : Nat) : Int), vI 2, vI ((b0 : Nat) : Int)] dL_law_1466 mwX9_lay lkL_175 (by decide) rfl rc_X9 rfl (Nat.le_of_ble_eq_true rfl) (by omega) (by omega) (by omega) (c_X9_lay (v1 := (N 5)) (v2 := (N (20 + 11 * b0))) (v3 := (h 148 s0)) (v4 := (h 145 b0)) (v5 := (h 146 b0)) (f6 := (h 147)) (f7 := (h 151)) (v8 := (N (15 + 11 * b0))) (by omega)  (congrFun hN _) ((congrArg (h 124) (show (Int.toNat ((15 + (11 * ((b0 : Nat) : Int))) + 5)) = (20 + 11 * b0) by omega)).trans (congrFun hN _)) rfl rfl rfl rfl rfl ((congrArg (h 124) (show (Int.toNat ((15 + (11 * ((b0 : Nat) : Int))) + 0)) = (15 + 11 * b0) by omega)).trans (congrFun hN _)) (show 0 ≤ (N 5) ∧ (N 5) ≤ 12 by omega) (show Im ((b0 : Nat) : Int) (N 5) (0 ≤ (N (20 + 11 * b0)) ∧ (N (20 + 11 * b0)) ≤ 999) from fun _ _ => (by omega)) (fun t1_1_7 t10_2_7 c18_3_7 c31_4_7 c46_5_7 c84_7_7 c98_8_7 c119_9_7 c154_10_7 => ?_) (fun t1_1_7 t10_2_7 c18_3_7 c31_4_7 t35_11_7 c46_12_7 c55_14_7 c84_16_7 c98_17_7 c119_19_7 => ?_) (fun t1_1_7 t10_2_7 c18_3_7 c31_4_7 t35_11_7 c46_12_7 c55_14_7 => ?_) (fun t1_1_7 t10_2_7 c18_3_7 c31_4_7 t35_11_7 => ?_) (fun t1_1_7 t10_2_7 c18_3_7 t23_20_7 c31_21_7 c46_22_7 c84_24_7 c119_25_7 c154_26_7 => ?_) (fun t1_1_7 t10_2_7 c18_3_7 t23_20_7 => ?_) (fun t1_1_7 t10_2_7 => ?_) (fun t1_1_7 => ?_))
      · exact absurd c31_4_7 (by decide)
      · have t1_1_7 : 0 ≤ ((s0 : Nat) : Int) ∧ ((s0 : Nat) : Int) ≤ 4 := t1_1_7
        have t10_2_7 : (0 : Int) ≤ (2 : Int) ∧ (2 : Int) ≤ (3 : Int) := t10_2_7
        have c18_3_7 : ¬ (2 : Int) = (1 : Int) := c18_3_7
        have c31_4_7 : (2 : Int) = (2 : Int) := c31_4_7
        have t35_11_7 : 0 ≤ ((b0 : Nat) : Int) ∧ ((b0 : Nat) : Int) ≤ 3 := t35_11_7
        have c46_12_7 : (2 : Int) = (2 : Int) := c46_12_7
        have c55_14_7 : 0 ≤ (h 145 b0) := c55_14_7
        have c84_16_7 : ¬ (2 : Int) = (1 : Int) := c84_16_7
        have c98_17_7 : (2 : Int) = (2 : Int) := c98_17_7
        have c119_19_7 : ¬ (2 : Int) = (1 : Int) := c119_19_7
        show Aj γ mL_law d mc ms Post 1469 [(0, vK 0), (1, vA 0), (2, vA 123), (3, vI ((i : Nat) : Int))] [vI (h 148 s0), vI (-1000000011)] (mk (upR (up2 (up2 (up2 h 148 s0 2) 149 s0 (h 146 b0)) 150 s0 0) 151 (cpy (h 147) (h 151) (Int.toNat (24 * ((b0 : Nat) : Int))) (Int.toNat (24 * ((s0 : Nat) : Int))) 24)) τ)
        refine a_icmp_eq (tgt := 1668) dL_law_1469 (by decide) (fun c1469_9 => ?_) (fun c1469_9 => ?_)
        · exfalso
          omega
        · refine a_iconst dL_law_1472 ⟨by decide, by decide⟩ ?_
          exact a_zret dL_law_1473 rfl (by first | exact Or.inl rfl | exact Or.inr rfl | omega) (by exfalso; omega)
      · have t1_1_7 : 0 ≤ ((s0 : Nat) : Int) ∧ ((s0 : Nat) : Int) ≤ 4 := t1_1_7
        have t10_2_7 : (0 : Int) ≤ (2 : Int) ∧ (2 : Int) ≤ (3 : Int) := t10_2_7
        have c18_3_7 : ¬ (2 : Int) = (1 : Int) := c18_3_7
        have c31_4_7 : (2 : Int) = (2 : Int) := c31_4_7
        have t35_11_7 : 0 ≤ ((b0 : Nat) : Int) ∧ ((b0 : Nat) : Int) ≤ 3 := t35_11_7
        have c46_12_7 : (2 : Int) = (2 : Int) := c46_12_7
        have c55_14_7 : ¬ 0 ≤ (h 145 b0) := c55_14_7
        show Aj γ mL_law d mc ms Post 1469 [(0, vK 0), (1, vA 0), (2, vA 123), (3, vI ((i : Nat) : Int))] [vI (-1000000011), vI (-1000000011)] (mk h τ)
        refine a_icmp_eq (tgt := 1668) dL_law_1469 (by decide) (fun _ => ?_) (fun c => absurd c (by decide))
        exact kE h N J (IV_up (by omega) hI)
      · exfalso
        omega
      · exact absurd c18_3_7 (by decide)
      · exact absurd c18_3_7 (by decide)
      · exfalso
        omega
      · exfalso
        omega
    · have t1_1_1 : 0 ≤ ((s0 : Nat) : Int) ∧ ((s0 : Nat) : Int) ≤ 4 := t1_1_1
      have t10_2_1 : (0 : Int) ≤ (2 : Int) ∧ (2 : Int) ≤ (3 : Int) := t10_2_1
      have c21_3_1 : ¬ (2 : Int) = (1 : Int) := c21_3_1
      have c37_4_1 : (2 : Int) = (2 : Int) := c37_4_1
      have t41_8_1 : ¬ (0 ≤ ((b0 : Nat) : Int) ∧ ((b0 : Nat) : Int) ≤ 3) := t41_8_1
      show Aj γ mL_law d mc ms Post 1450 [(0, vK 0), (1, vA 0), (2, vA 123), (3, vI ((i : Nat) : Int))] [vI (-1000000001)] (mk h τ)
      refine a_aload_n (j := 2) dL_law_1450 rfl rfl (Nat.le_of_ble_eq_true rfl) ?_
      refine a_aload_n (j := 0) dL_law_1451 rfl rfl (Nat.le_of_ble_eq_true rfl) ?_
      refine a_iload_n (j := 3) dL_law_1452 rfl rfl ?_
      refine a_iconst dL_law_1453 ⟨by decide, by decide⟩ ?_
      refine a_iadd (z := (((i : Nat) : Int) + 1)) dL_law_1454 (w_ok (by omega) (by omega)) ?_
      refine a_sld (i + 1) dL_law_1455 (by omega) (by omega) ?_
      rw [ha1]
      refine a_aload_n (j := 0) dL_law_1456 rfl rfl (Nat.le_of_ble_eq_true rfl) ?_
      refine a_iload_n (j := 3) dL_law_1457 rfl rfl ?_
      refine a_iconst dL_law_1458 ⟨by decide, by decide⟩ ?_
      refine a_iadd (z := (((i : Nat) : Int) + 2)) dL_law_1459 (w_ok (by omega) (by omega)) ?_
      refine a_sld (i + 2) dL_law_1460 (by omega) (by omega) ?_
      rw [ha2]
      refine a_aload_n (j := 0) dL_law_1461 rfl rfl (Nat.le_of_ble_eq_true rfl) ?_
      refine a_iload_n (j := 3) dL_law_1462 rfl rfl ?_
      refine a_iconst dL_law_1463 ⟨by decide, by decide⟩ ?_
      refine a_iadd (z := (((i : Nat) : Int) + 3)) dL_law_1464 (w_ok (by omega) (by omega)) ?_
      refine a_sld (i + 3) dL_law_1465 (by omega) (by omega) ?_
      rw [ha3]
      refine b_callV (d' := d - 1) (mc' := 0) (ms' := 0) (mc1 := mc) (ms1 := ms) (st := [vI (-1000000001)]) (b := 123) [vI ((s0 : Nat) : Int), vI 2, vI ((b0 : Nat) : Int)] dL_law_1466 mwX9_lay lkL_175 (by decide) rfl rc_X9 rfl (Nat.le_of_ble_eq_true rfl) (by omega) (by omega) (by omega) (c_X9_lay (v1 := (N 5)) (v2 := (N (20 + 11 * b0))) (v3 := (h 148 s0)) (v4 := (h 145 b0)) (v5 := (h 146 b0)) (f6 := (h 147)) (f7 := (h 151)) (v8 := (N (15 + 11 * b0))) (by omega)  (congrFun hN _) ((congrArg (h 124) (show (Int.toNat ((15 + (11 * ((b0 : Nat) : Int))) + 5)) = (20 + 11 * b0) by omega)).trans (congrFun hN _)) rfl rfl rfl rfl rfl ((congrArg (h 124) (show (Int.toNat ((15 + (11 * ((b0 : Nat) : Int))) + 0)) = (15 + 11 * b0) by omega)).trans (congrFun hN _)) (show 0 ≤ (N 5) ∧ (N 5) ≤ 12 by omega) (show Im ((b0 : Nat) : Int) (N 5) (0 ≤ (N (20 + 11 * b0)) ∧ (N (20 + 11 * b0)) ≤ 999) from fun _ _ => (by omega)) (fun t1_1_10 t10_2_10 c18_3_10 c31_4_10 c46_5_10 c84_7_10 c98_8_10 c119_9_10 c154_10_10 => ?_) (fun t1_1_10 t10_2_10 c18_3_10 c31_4_10 t35_11_10 c46_12_10 c55_14_10 c84_16_10 c98_17_10 c119_19_10 => ?_) (fun t1_1_10 t10_2_10 c18_3_10 c31_4_10 t35_11_10 c46_12_10 c55_14_10 => ?_) (fun t1_1_10 t10_2_10 c18_3_10 c31_4_10 t35_11_10 => ?_) (fun t1_1_10 t10_2_10 c18_3_10 t23_20_10 c31_21_10 c46_22_10 c84_24_10 c119_25_10 c154_26_10 => ?_) (fun t1_1_10 t10_2_10 c18_3_10 t23_20_10 => ?_) (fun t1_1_10 t10_2_10 => ?_) (fun t1_1_10 => ?_))
      · exact absurd c31_4_10 (by decide)
      · exfalso
        omega
      · exfalso
        omega
      · have t1_1_10 : 0 ≤ ((s0 : Nat) : Int) ∧ ((s0 : Nat) : Int) ≤ 4 := t1_1_10
        have t10_2_10 : (0 : Int) ≤ (2 : Int) ∧ (2 : Int) ≤ (3 : Int) := t10_2_10
        have c18_3_10 : ¬ (2 : Int) = (1 : Int) := c18_3_10
        have c31_4_10 : (2 : Int) = (2 : Int) := c31_4_10
        have t35_11_10 : ¬ (0 ≤ ((b0 : Nat) : Int) ∧ ((b0 : Nat) : Int) ≤ 3) := t35_11_10
        show Aj γ mL_law d mc ms Post 1469 [(0, vK 0), (1, vA 0), (2, vA 123), (3, vI ((i : Nat) : Int))] [vI (-1000000001), vI (-1000000001)] (mk h τ)
        refine a_icmp_eq (tgt := 1668) dL_law_1469 (by decide) (fun _ => ?_) (fun c => absurd c (by decide))
        exact kE h N J (IV_up (by omega) hI)
      · exact absurd c18_3_10 (by decide)
      · exact absurd c18_3_10 (by decide)
      · exfalso
        omega
      · exfalso
        omega
    · exact absurd c21_3_1 (by decide)
    · exact absurd c21_3_1 (by decide)
    · have t1_1_1 : 0 ≤ ((s0 : Nat) : Int) ∧ ((s0 : Nat) : Int) ≤ 4 := t1_1_1
      have t10_2_1 : ¬ ((0 : Int) ≤ (2 : Int) ∧ (2 : Int) ≤ (3 : Int)) := t10_2_1
      show Aj γ mL_law d mc ms Post 1450 [(0, vK 0), (1, vA 0), (2, vA 123), (3, vI ((i : Nat) : Int))] [vI (-1000000001)] (mk h τ)
      refine a_aload_n (j := 2) dL_law_1450 rfl rfl (Nat.le_of_ble_eq_true rfl) ?_
      refine a_aload_n (j := 0) dL_law_1451 rfl rfl (Nat.le_of_ble_eq_true rfl) ?_
      refine a_iload_n (j := 3) dL_law_1452 rfl rfl ?_
      refine a_iconst dL_law_1453 ⟨by decide, by decide⟩ ?_
      refine a_iadd (z := (((i : Nat) : Int) + 1)) dL_law_1454 (w_ok (by omega) (by omega)) ?_
      refine a_sld (i + 1) dL_law_1455 (by omega) (by omega) ?_
      rw [ha1]
      refine a_aload_n (j := 0) dL_law_1456 rfl rfl (Nat.le_of_ble_eq_true rfl) ?_
      refine a_iload_n (j := 3) dL_law_1457 rfl rfl ?_
      refine a_iconst dL_law_1458 ⟨by decide, by decide⟩ ?_
      refine a_iadd (z := (((i : Nat) : Int) + 2)) dL_law_1459 (w_ok (by omega) (by omega)) ?_
      refine a_sld (i + 2) dL_law_1460 (by omega) (by omega) ?_
      rw [ha2]
      refine a_aload_n (j := 0) dL_law_1461 rfl rfl (Nat.le_of_ble_eq_true rfl) ?_
      refine a_iload_n (j := 3) dL_law_1462 rfl rfl ?_
      refine a_iconst dL_law_1463 ⟨by decide, by decide⟩ ?_
      refine a_iadd (z := (((i : Nat) : Int) + 3)) dL_law_1464 (w_ok (by omega) (by omega)) ?_
      refine a_sld (i + 3) dL_law_1465 (by omega) (by omega) ?_
      rw [ha3]
      refine b_callV (d' := d - 1) (mc' := 0) (ms' := 0) (mc1 := mc) (ms1 := ms) (st := [vI (-1000000001)]) (b := 123) [vI ((s0 : Nat) : Int), vI 2, vI ((b0 : Nat) : Int)] dL_law_1466 mwX9_lay lkL_175 (by decide) rfl rc_X9 rfl (Nat.le_of_ble_eq_true rfl) (by omega) (by omega) (by omega) (c_X9_lay (v1 := (N 5)) (v2 := (N (20 + 11 * b0))) (v3 := (h 148 s0)) (v4 := (h 145 b0)) (v5 := (h 146 b0)) (f6 := (h 147)) (f7 := (h 151)) (v8 := (N (15 + 11 * b0))) (by omega)  (congrFun hN _) ((congrArg (h 124) (show (Int.toNat ((15 + (11 * ((b0 : Nat) : Int))) + 5)) = (20 + 11 * b0) by omega)).trans (congrFun hN _)) rfl rfl rfl rfl rfl ((congrArg (h 124) (show (Int.toNat ((15 + (11 * ((b0 : Nat) : Int))) + 0)) = (15 + 11 * b0) by omega)).trans (congrFun hN _)) (show 0 ≤ (N 5) ∧ (N 5) ≤ 12 by omega) (show Im ((b0 : Nat) : Int) (N 5) (0 ≤ (N (20 + 11 * b0)) ∧ (N (20 + 11 * b0)) ≤ 999) from fun _ _ => (by omega)) (fun t1_1_12 t10_2_12 c18_3_12 c31_4_12 c46_5_12 c84_7_12 c98_8_12 c119_9_12 c154_10_12 => ?_) (fun t1_1_12 t10_2_12 c18_3_12 c31_4_12 t35_11_12 c46_12_12 c55_14_12 c84_16_12 c98_17_12 c119_19_12 => ?_) (fun t1_1_12 t10_2_12 c18_3_12 c31_4_12 t35_11_12 c46_12_12 c55_14_12 => ?_) (fun t1_1_12 t10_2_12 c18_3_12 c31_4_12 t35_11_12 => ?_) (fun t1_1_12 t10_2_12 c18_3_12 t23_20_12 c31_21_12 c46_22_12 c84_24_12 c119_25_12 c154_26_12 => ?_) (fun t1_1_12 t10_2_12 c18_3_12 t23_20_12 => ?_) (fun t1_1_12 t10_2_12 => ?_) (fun t1_1_12 => ?_))
      · exact absurd c31_4_12 (by decide)
      · exfalso
        omega
      · exfalso
        omega
      · exfalso
        omega
      · exact absurd c18_3_12 (by decide)
      · exact absurd c18_3_12 (by decide)
      · have t1_1_12 : 0 ≤ ((s0 : Nat) : Int) ∧ ((s0 : Nat) : Int) ≤ 4 := t1_1_12
        have t10_2_12 : ¬ ((0 : Int) ≤ (2 : Int) ∧ (2 : Int) ≤ (3 : Int)) := t10_2_12
        show Aj γ mL_law d mc ms Post 1469 [(0, vK 0), (1, vA 0), (2, vA 123), (3, vI ((i : Nat) : Int))] [vI (-1000000001), vI (-1000000001)] (mk h τ)
        refine a_icmp_eq (tgt := 1668) dL_law_1469 (by decide) (fun _ => ?_) (fun c => absurd c (by decide))
        exact kE h N J (IV_up (by omega) hI)
      · exfalso
        omega
    · exfalso
      omega
  · obtain ⟨s0, rfl⟩ : ∃ z : Nat, a1 = (z : Int) := ⟨Int.toNat a1, by omega⟩
    obtain ⟨l0, l1, l2, l3, l4, l5⟩ := hO.2.2.1 s0 (by omega)
    obtain rfl : a2 = 0 := hin.2
    have y5 : 0 ≤ a3 ∧ a3 < N 5 → 0 ≤ N (Int.toNat ((15 + (11 * a3)) + 5)) ∧ N (Int.toNat ((15 + (11 * a3)) + 5)) ≤ 999 := fun p => by have w := (hX.1.2.2.1 (Int.toNat a3) (by omega)).2.2.2.2.2.1; rw [show Int.toNat ((15 + (11 * a3)) + 5) = 20 + 11 * Int.toNat a3 by omega]; exact w
    refine a_aload_n (j := 1) dL_law_1431 rfl rfl (Nat.le_of_ble_eq_true rfl) ?_
    refine a_aload_n (j := 0) dL_law_1432 rfl rfl (Nat.le_of_ble_eq_true rfl) ?_
    refine a_iload_n (j := 3) dL_law_1433 rfl rfl ?_
    refine a_iconst dL_law_1434 ⟨by decide, by decide⟩ ?_
    refine a_iadd (z := (((i : Nat) : Int) + 1)) dL_law_1435 (w_ok (by omega) (by omega)) ?_
    refine a_sld (i + 1) dL_law_1436 (by omega) (by omega) ?_
    rw [ha1]
    refine a_aload_n (j := 0) dL_law_1437 rfl rfl (Nat.le_of_ble_eq_true rfl) ?_
    refine a_iload_n (j := 3) dL_law_1438 rfl rfl ?_
    refine a_iconst dL_law_1439 ⟨by decide, by decide⟩ ?_
    refine a_iadd (z := (((i : Nat) : Int) + 2)) dL_law_1440 (w_ok (by omega) (by omega)) ?_
    refine a_sld (i + 2) dL_law_1441 (by omega) (by omega) ?_
    rw [ha2]
    refine a_aload_n (j := 0) dL_law_1442 rfl rfl (Nat.le_of_ble_eq_true rfl) ?_
    refine a_iload_n (j := 3) dL_law_1443 rfl rfl ?_
    refine a_iconst dL_law_1444 ⟨by decide, by decide⟩ ?_
    refine a_iadd (z := (((i : Nat) : Int) + 3)) dL_law_1445 (w_ok (by omega) (by omega)) ?_
    refine a_sld (i + 3) dL_law_1446 (by omega) (by omega) ?_
    rw [ha3]
    refine b_callV (d' := d - 1) (mc' := 0) (ms' := 0) (mc1 := mc) (ms1 := ms) (st := []) (b := 0) [vI ((s0 : Nat) : Int), vI 0, vI a3] dL_law_1447 mwX8_lay lkL_172 (by decide) rfl rc_X8 rfl (Nat.le_of_ble_eq_true rfl) (by omega) (by omega) (by omega) (c_X8_lay (v1 := (N 5)) (v2 := (h 148 s0)) (v3 := (h (90 + 2 * (Int.toNat a3)) 0)) (v4 := (h (90 + 2 * (Int.toNat a3)) 1)) (f5 := (h ((90 + 2 * (Int.toNat a3)) + 1))) (f6 := (h (((98 + 5 * s0) + 3) + 1))) (v7 := (h (8 + 2 * (Int.toNat a3)) 0)) (v8 := (h (8 + 2 * (Int.toNat a3)) 1)) (v9 := (h (8 + 2 * (Int.toNat a3)) 2)) (v10 := (h (8 + 2 * (Int.toNat a3)) 3)) (v11 := (h (8 + 2 * (Int.toNat a3)) 4)) (v12 := (h (8 + 2 * (Int.toNat a3)) 5)) (v13 := (h (8 + 2 * (Int.toNat a3)) 6)) (f14 := (h ((8 + 2 * (Int.toNat a3)) + 1))) (f15 := (h (((98 + 5 * s0) + 1) + 1))) (by omega)  hR.1.2.1 l0 rfl rfl rfl rfl rfl rfl rfl rfl rfl rfl rfl rfl rfl (show 0 ≤ (N 5) ∧ (N 5) ≤ 12 by omega) (fun t1_1_1 t10_2_1 c21_3_1 c37_4_1 c52_5_1 c95_6_1 c120_7_1 => ?_) (fun t1_1_1 t10_2_1 c21_3_1 c37_4_1 t41_8_1 c52_9_1 c65_10_1 c95_11_1 c120_12_1 => ?_) (fun t1_1_1 t10_2_1 c21_3_1 c37_4_1 t41_8_1 c52_9_1 c65_10_1 => ?_) (fun t1_1_1 t10_2_1 c21_3_1 c37_4_1 t41_8_1 => ?_) (fun t1_1_1 t10_2_1 c21_3_1 t29_13_1 c37_14_1 c52_15_1 c95_16_1 => ?_) (fun t1_1_1 t10_2_1 c21_3_1 t29_13_1 => ?_) (fun t1_1_1 t10_2_1 => ?_) (fun t1_1_1 => ?_))
    · have t1_1_1 : 0 ≤ ((s0 : Nat) : Int) ∧ ((s0 : Nat) : Int) ≤ 4 := t1_1_1
      have t10_2_1 : (0 : Int) ≤ (0 : Int) ∧ (0 : Int) ≤ (3 : Int) := t10_2_1
      have c21_3_1 : ¬ (0 : Int) = (1 : Int) := c21_3_1
      have c37_4_1 : ¬ (0 : Int) = (2 : Int) := c37_4_1
      have c52_5_1 : ¬ (0 : Int) = (2 : Int) := c52_5_1
      have c95_6_1 : ¬ (0 : Int) = (1 : Int) := c95_6_1
      have c120_7_1 : ¬ (0 : Int) = (2 : Int) := c120_7_1
      show Aj γ mL_law d mc ms Post 1450 [(0, vK 0), (1, vA 0), (2, vA 123), (3, vI ((i : Nat) : Int))] [vI (h 148 s0)] (mk (up2 (up2 h (98 + 5 * s0) 0 0) (98 + 5 * s0) 1 a3) τ)
      refine a_aload_n (j := 2) dL_law_1450 rfl rfl (Nat.le_of_ble_eq_true rfl) ?_
      refine a_aload_n (j := 0) dL_law_1451 rfl rfl (Nat.le_of_ble_eq_true rfl) ?_
      refine a_iload_n (j := 3) dL_law_1452 rfl rfl ?_
      refine a_iconst dL_law_1453 ⟨by decide, by decide⟩ ?_
      refine a_iadd (z := (((i : Nat) : Int) + 1)) dL_law_1454 (w_ok (by omega) (by omega)) ?_
      refine a_sld (i + 1) dL_law_1455 (by omega) (by omega) ?_
      rw [ha1]
      refine a_aload_n (j := 0) dL_law_1456 rfl rfl (Nat.le_of_ble_eq_true rfl) ?_
      refine a_iload_n (j := 3) dL_law_1457 rfl rfl ?_
      refine a_iconst dL_law_1458 ⟨by decide, by decide⟩ ?_
      refine a_iadd (z := (((i : Nat) : Int) + 2)) dL_law_1459 (w_ok (by omega) (by omega)) ?_
      refine a_sld (i + 2) dL_law_1460 (by omega) (by omega) ?_
      rw [ha2]
      refine a_aload_n (j := 0) dL_law_1461 rfl rfl (Nat.le_of_ble_eq_true rfl) ?_
      refine a_iload_n (j := 3) dL_law_1462 rfl rfl ?_
      refine a_iconst dL_law_1463 ⟨by decide, by decide⟩ ?_
      refine a_iadd (z := (((i : Nat) : Int) + 3)) dL_law_1464 (w_ok (by omega) (by omega)) ?_
      refine a_sld (i + 3) dL_law_1465 (by omega) (by omega) ?_
      rw [ha3]
      refine b_callV (d' := d - 1) (mc' := 0) (ms' := 0) (mc1 := mc) (ms1 := ms) (st := [vI (h 148 s0)]) (b := 123) [vI ((s0 : Nat) : Int), vI 0, vI a3] dL_law_1466 mwX9_lay lkL_175 (by decide) rfl rc_X9 rfl (Nat.le_of_ble_eq_true rfl) (by omega) (by omega) (by omega) (c_X9_lay (v1 := (N 5)) (v2 := (N (Int.toNat ((15 + (11 * a3)) + 5)))) (v3 := (h 148 s0)) (v4 := (h 145 (Int.toNat a3))) (v5 := (h 146 (Int.toNat a3))) (f6 := (h 147)) (f7 := (h 151)) (v8 := (N (Int.toNat ((15 + (11 * a3)) + 0)))) (by omega)  ((up2_ne (by omega)).trans ((up2_ne (by omega)).trans (congrFun hN _))) ((up2_ne (by omega)).trans ((up2_ne (by omega)).trans (congrFun hN _))) ((up2_ne (by omega)).trans ((up2_ne (by omega)).trans rfl)) ((up2_ne (by omega)).trans ((up2_ne (by omega)).trans rfl)) ((up2_ne (by omega)).trans ((up2_ne (by omega)).trans rfl)) ((up2_row (by omega)).trans ((up2_row (by omega)).trans rfl)) ((up2_row (by omega)).trans ((up2_row (by omega)).trans rfl)) ((up2_ne (by omega)).trans ((up2_ne (by omega)).trans (congrFun hN _))) (show 0 ≤ (N 5) ∧ (N 5) ≤ 12 by omega) (show Im a3 (N 5) (0 ≤ (N (Int.toNat ((15 + (11 * a3)) + 5))) ∧ (N (Int.toNat ((15 + (11 * a3)) + 5))) ≤ 999) from fun _ _ => (by omega)) (fun t1_1_3 t10_2_3 c18_3_3 c31_4_3 c46_5_3 c84_7_3 c98_8_3 c119_9_3 c154_10_3 => ?_) (fun t1_1_3 t10_2_3 c18_3_3 c31_4_3 t35_11_3 c46_12_3 c55_14_3 c84_16_3 c98_17_3 c119_19_3 => ?_) (fun t1_1_3 t10_2_3 c18_3_3 c31_4_3 t35_11_3 c46_12_3 c55_14_3 => ?_) (fun t1_1_3 t10_2_3 c18_3_3 c31_4_3 t35_11_3 => ?_) (fun t1_1_3 t10_2_3 c18_3_3 t23_20_3 c31_21_3 c46_22_3 c84_24_3 c119_25_3 c154_26_3 => ?_) (fun t1_1_3 t10_2_3 c18_3_3 t23_20_3 => ?_) (fun t1_1_3 t10_2_3 => ?_) (fun t1_1_3 => ?_))
      · have t1_1_3 : 0 ≤ ((s0 : Nat) : Int) ∧ ((s0 : Nat) : Int) ≤ 4 := t1_1_3
        have t10_2_3 : (0 : Int) ≤ (0 : Int) ∧ (0 : Int) ≤ (3 : Int) := t10_2_3
        have c18_3_3 : ¬ (0 : Int) = (1 : Int) := c18_3_3
        have c31_4_3 : ¬ (0 : Int) = (2 : Int) := c31_4_3
        have c46_5_3 : ¬ (0 : Int) = (2 : Int) := c46_5_3
        have c84_7_3 : ¬ (0 : Int) = (1 : Int) := c84_7_3
        have c98_8_3 : ¬ (0 : Int) = (2 : Int) := c98_8_3
        have c119_9_3 : ¬ (0 : Int) = (1 : Int) := c119_9_3
        have c154_10_3 : ¬ (0 : Int) = (2 : Int) := c154_10_3
        show Aj γ mL_law d mc ms Post 1469 [(0, vK 0), (1, vA 0), (2, vA 123), (3, vI ((i : Nat) : Int))] [vI (h 148 s0), vI (h 148 s0)] (mk (up2 (up2 (up2 (up2 (up2 h (98 + 5 * s0) 0 0) (98 + 5 * s0) 1 a3) 148 s0 0) 149 s0 a3) 150 s0 0) τ)
        refine a_icmp_eq (tgt := 1668) dL_law_1469 (by decide) (fun c1469_5 => ?_) (fun c1469_5 => ?_)
        · generalize hHH : (up2 (up2 (up2 (up2 (up2 h (98 + 5 * s0) 0 0) (98 + 5 * s0) 1 a3) 148 s0 0) 149 s0 a3) 150 s0 0) = H
          have gR : ∀ c, (c < 98 ∨ 123 ≤ c) → c ≠ 148 → c ≠ 149 → c ≠ 150 → c ≠ 151 → H c = h c := fun c q0_ q1_ q2_ q3_ q4_ => by rw [← hHH]; exact ((up2_row (by omega)).trans ((up2_row (by omega)).trans ((up2_row (by omega)).trans ((up2_row (by omega)).trans ((up2_row (by omega)).trans rfl)))))
          have c0_ : H (98 + 5 * s0) 0 = 0 := by rw [← hHH]; exact ((up2_ne (by omega)).trans ((up2_ne (by omega)).trans ((up2_ne (by omega)).trans ((up2_ne (by omega)).trans (up2_hit (by omega) (by omega))))))
          have x0_ : H 148 s0 = 0 := by rw [← hHH]; exact ((up2_ne (by omega)).trans ((up2_ne (by omega)).trans (up2_hit (by omega) (by omega))))
          have x9_ : H 149 s0 = a3 := by rw [← hHH]; exact ((up2_ne (by omega)).trans (up2_hit (by omega) (by omega)))
          have xb_ : H 150 s0 = 0 := by rw [← hHH]; exact (up2_hit (by omega) (by omega))
          have eo_ : ∀ c, 98 ≤ c → c < 123 → (c < 98 + 5 * s0 ∨ 98 + 5 * s0 + 5 ≤ c) → H c = h c := fun c q0_ q1_ q2_ => by rw [← hHH]; exact ((up2_row (by omega)).trans ((up2_row (by omega)).trans ((up2_row (by omega)).trans ((up2_row (by omega)).trans ((up2_row (by omega)).trans rfl)))))
          have o8_ : ∀ k : Nat, k ≠ s0 → H 148 k = h 148 k := fun k q0_ => by rw [← hHH]; exact ((up2_ne (by omega)).trans ((up2_ne (by omega)).trans ((up2_ne (by omega)).trans ((up2_ne (by omega)).trans ((up2_ne (by omega)).trans rfl)))))
          have o9_ : ∀ k : Nat, k ≠ s0 → H 149 k = h 149 k := fun k q0_ => by rw [← hHH]; exact ((up2_ne (by omega)).trans ((up2_ne (by omega)).trans ((up2_ne (by omega)).trans ((up2_ne (by omega)).trans ((up2_ne (by omega)).trans rfl)))))
          have ob_ : ∀ k : Nat, k ≠ s0 → H 150 k = h 150 k := fun k q0_ => by rw [← hHH]; exact ((up2_ne (by omega)).trans ((up2_ne (by omega)).trans ((up2_ne (by omega)).trans ((up2_ne (by omega)).trans ((up2_ne (by omega)).trans rfl)))))
          have o1m : ∀ k : Nat, H 151 k = h 151 k := fun k  => by rw [← hHH]; exact ((up2_ne (by omega)).trans ((up2_ne (by omega)).trans ((up2_ne (by omega)).trans ((up2_ne (by omega)).trans ((up2_ne (by omega)).trans rfl)))))
          have o1_ : ∀ k : Nat, k < 24 * s0 ∨ 24 * s0 + 24 ≤ k → H 151 k = h 151 k := fun k _ => o1m k
          have y1_ : H ((98 + 5 * s0) + 3) 1 = h ((98 + 5 * s0) + 3) 1 := by rw [← hHH]; exact ((up2_ne (by omega)).trans ((up2_ne (by omega)).trans ((up2_ne (by omega)).trans ((up2_ne (by omega)).trans ((up2_ne (by omega)).trans rfl)))))
          have z1_ : H (98 + 5 * s0) 1 = a3 := by rw [← hHH]; exact ((up2_ne (by omega)).trans ((up2_ne (by omega)).trans ((up2_ne (by omega)).trans (up2_hit (by omega) (by omega)))))
          have nw : SLs H s0 := by
            unfold SLs
            rw [c0_, x0_, x9_, show H (98 + 5 * s0 + 3) 1 = _ from y1_, z1_]
            exact ⟨rfl, by omega, fun e => by omega, fun e => by omega, fun _ => rfl, l5⟩
          have t1_ : H 84 1 = h 84 1 := by rw [← hHH]; exact ((up2_ne (by omega)).trans ((up2_ne (by omega)).trans ((up2_ne (by omega)).trans ((up2_ne (by omega)).trans ((up2_ne (by omega)).trans rfl)))))
          have t3_ : H 123 17 = h 123 17 := by rw [← hHH]; exact ((up2_ne (by omega)).trans ((up2_ne (by omega)).trans ((up2_ne (by omega)).trans ((up2_ne (by omega)).trans ((up2_ne (by omega)).trans rfl)))))
          have w0_ : H 0 12 = h 0 12 := by rw [← hHH]; exact ((up2_ne (by omega)).trans ((up2_ne (by omega)).trans ((up2_ne (by omega)).trans ((up2_ne (by omega)).trans ((up2_ne (by omega)).trans rfl)))))
          have w1_ : H 123 44 = h 123 44 := by rw [← hHH]; exact ((up2_ne (by omega)).trans ((up2_ne (by omega)).trans ((up2_ne (by omega)).trans ((up2_ne (by omega)).trans ((up2_ne (by omega)).trans rfl)))))
          have g0 : ∀ k : Nat, k ≠ 12 → H 0 k = h 0 k := fun k q0_ => by rw [← hHH]; exact ((up2_ne (by omega)).trans ((up2_ne (by omega)).trans ((up2_ne (by omega)).trans ((up2_ne (by omega)).trans ((up2_ne (by omega)).trans rfl)))))
          have gF : ∀ c, ((1 ≤ c ∧ c < 84) ∨ (124 ≤ c ∧ c < 137)) → H c = h c := fun c q0_ => by rw [← hHH]; exact ((up2_row (by omega)).trans ((up2_row (by omega)).trans ((up2_row (by omega)).trans ((up2_row (by omega)).trans ((up2_row (by omega)).trans rfl)))))
          have k3_ : H 123 3 = h 123 3 := by rw [← hHH]; exact ((up2_ne (by omega)).trans ((up2_ne (by omega)).trans ((up2_ne (by omega)).trans ((up2_ne (by omega)).trans ((up2_ne (by omega)).trans rfl)))))
          have k4_ : H 123 4 = h 123 4 := by rw [← hHH]; exact ((up2_ne (by omega)).trans ((up2_ne (by omega)).trans ((up2_ne (by omega)).trans ((up2_ne (by omega)).trans ((up2_ne (by omega)).trans rfl)))))
          have k9_ : H 123 9 = h 123 9 := by rw [← hHH]; exact ((up2_ne (by omega)).trans ((up2_ne (by omega)).trans ((up2_ne (by omega)).trans ((up2_ne (by omega)).trans ((up2_ne (by omega)).trans rfl)))))
          have g3 : ∀ k, k = 3 ∨ k = 4 ∨ k = 9 → H 123 k = h 123 k := fun k hk => by rcases hk with rfl | rfl | rfl; exact k3_; exact k4_; exact k9_
          exact kE H N J (IV_up (by omega) (IV_o hI gF g0 g3 ⟨TPE_fr t1_ (gR 85 (by omega) (by decide) (by decide) (by decide) (by decide)) t3_ (gR 137 (by omega) (by decide) (by decide) (by decide) (by decide)) hO.1, SHE_fr (fun c h1 h2 => gR c (by omega) (by omega) (by omega) (by omega) (by omega)) (gR 145 (by omega) (by decide) (by decide) (by decide) (by decide)) (gR 146 (by omega) (by decide) (by decide) (by decide) (by decide)) (gR 147 (by omega) (by decide) (by decide) (by decide) (by decide)) hO.2.1, SLE_u (by omega) eo_ o8_ o9_ ob_ o1_ nw hO.2.2.1, WTE_fr w0_ w1_ (gR 89 (by omega) (by decide) (by decide) (by decide) (by decide)) (gR 153 (by omega) (by decide) (by decide) (by decide) (by decide)) hO.2.2.2.1, CNE_fr (gR 138 (by omega) (by decide) (by decide) (by decide) (by decide)) (gR 139 (by omega) (by decide) (by decide) (by decide) (by decide)) hO.2.2.2.2⟩))
        · refine a_iconst dL_law_1472 ⟨by decide, by decide⟩ ?_
          exact a_zret dL_law_1473 rfl (by first | exact Or.inl rfl | exact Or.inr rfl | omega) (by exfalso; omega)
      · exact absurd c31_4_3 (by decide)
      · exact absurd c31_4_3 (by decide)
      · exact absurd c31_4_3 (by decide)
      · exact absurd c18_3_3 (by decide)
      · exact absurd c18_3_3 (by decide)
      · exfalso
        omega
      · exfalso
        omega
    · exact absurd c37_4_1 (by decide)
    · exact absurd c37_4_1 (by decide)
    · exact absurd c37_4_1 (by decide)
    · exact absurd c21_3_1 (by decide)
    · exact absurd c21_3_1 (by decide)
    · have t1_1_1 : 0 ≤ ((s0 : Nat) : Int) ∧ ((s0 : Nat) : Int) ≤ 4 := t1_1_1
      have t10_2_1 : ¬ ((0 : Int) ≤ (0 : Int) ∧ (0 : Int) ≤ (3 : Int)) := t10_2_1
      show Aj γ mL_law d mc ms Post 1450 [(0, vK 0), (1, vA 0), (2, vA 123), (3, vI ((i : Nat) : Int))] [vI (-1000000001)] (mk h τ)
      refine a_aload_n (j := 2) dL_law_1450 rfl rfl (Nat.le_of_ble_eq_true rfl) ?_
      refine a_aload_n (j := 0) dL_law_1451 rfl rfl (Nat.le_of_ble_eq_true rfl) ?_
      refine a_iload_n (j := 3) dL_law_1452 rfl rfl ?_
      refine a_iconst dL_law_1453 ⟨by decide, by decide⟩ ?_
      refine a_iadd (z := (((i : Nat) : Int) + 1)) dL_law_1454 (w_ok (by omega) (by omega)) ?_
      refine a_sld (i + 1) dL_law_1455 (by omega) (by omega) ?_
      rw [ha1]
      refine a_aload_n (j := 0) dL_law_1456 rfl rfl (Nat.le_of_ble_eq_true rfl) ?_
      refine a_iload_n (j := 3) dL_law_1457 rfl rfl ?_
      refine a_iconst dL_law_1458 ⟨by decide, by decide⟩ ?_
      refine a_iadd (z := (((i : Nat) : Int) + 2)) dL_law_1459 (w_ok (by omega) (by omega)) ?_
      refine a_sld (i + 2) dL_law_1460 (by omega) (by omega) ?_
      rw [ha2]
      refine a_aload_n (j := 0) dL_law_1461 rfl rfl (Nat.le_of_ble_eq_true rfl) ?_
      refine a_iload_n (j := 3) dL_law_1462 rfl rfl ?_
      refine a_iconst dL_law_1463 ⟨by decide, by decide⟩ ?_
      refine a_iadd (z := (((i : Nat) : Int) + 3)) dL_law_1464 (w_ok (by omega) (by omega)) ?_
      refine a_sld (i + 3) dL_law_1465 (by omega) (by omega) ?_
      rw [ha3]
      refine b_callV (d' := d - 1) (mc' := 0) (ms' := 0) (mc1 := mc) (ms1 := ms) (st := [vI (-1000000001)]) (b := 123) [vI ((s0 : Nat) : Int), vI 0, vI a3] dL_law_1466 mwX9_lay lkL_175 (by decide) rfl rc_X9 rfl (Nat.le_of_ble_eq_true rfl) (by omega) (by omega) (by omega) (c_X9_lay (v1 := (N 5)) (v2 := (N (Int.toNat ((15 + (11 * a3)) + 5)))) (v3 := (h 148 s0)) (v4 := (h 145 (Int.toNat a3))) (v5 := (h 146 (Int.toNat a3))) (f6 := (h 147)) (f7 := (h 151)) (v8 := (N (Int.toNat ((15 + (11 * a3)) + 0)))) (by omega)  (congrFun hN _) (congrFun hN _) rfl rfl rfl rfl rfl (congrFun hN _) (show 0 ≤ (N 5) ∧ (N 5) ≤ 12 by omega) (show Im a3 (N 5) (0 ≤ (N (Int.toNat ((15 + (11 * a3)) + 5))) ∧ (N (Int.toNat ((15 + (11 * a3)) + 5))) ≤ 999) from fun _ _ => (by omega)) (fun t1_1_6 t10_2_6 c18_3_6 c31_4_6 c46_5_6 c84_7_6 c98_8_6 c119_9_6 c154_10_6 => ?_) (fun t1_1_6 t10_2_6 c18_3_6 c31_4_6 t35_11_6 c46_12_6 c55_14_6 c84_16_6 c98_17_6 c119_19_6 => ?_) (fun t1_1_6 t10_2_6 c18_3_6 c31_4_6 t35_11_6 c46_12_6 c55_14_6 => ?_) (fun t1_1_6 t10_2_6 c18_3_6 c31_4_6 t35_11_6 => ?_) (fun t1_1_6 t10_2_6 c18_3_6 t23_20_6 c31_21_6 c46_22_6 c84_24_6 c119_25_6 c154_26_6 => ?_) (fun t1_1_6 t10_2_6 c18_3_6 t23_20_6 => ?_) (fun t1_1_6 t10_2_6 => ?_) (fun t1_1_6 => ?_))
      · exfalso
        omega
      · exact absurd c31_4_6 (by decide)
      · exact absurd c31_4_6 (by decide)
      · exact absurd c31_4_6 (by decide)
      · exact absurd c18_3_6 (by decide)
      · exact absurd c18_3_6 (by decide)
      · have t1_1_6 : 0 ≤ ((s0 : Nat) : Int) ∧ ((s0 : Nat) : Int) ≤ 4 := t1_1_6
        have t10_2_6 : ¬ ((0 : Int) ≤ (0 : Int) ∧ (0 : Int) ≤ (3 : Int)) := t10_2_6
        show Aj γ mL_law d mc ms Post 1469 [(0, vK 0), (1, vA 0), (2, vA 123), (3, vI ((i : Nat) : Int))] [vI (-1000000001), vI (-1000000001)] (mk h τ)
        refine a_icmp_eq (tgt := 1668) dL_law_1469 (by decide) (fun _ => ?_) (fun c => absurd c (by decide))
        exact kE h N J (IV_up (by omega) hI)
      · exfalso
        omega
    · exfalso
      omega
  · obtain ⟨s0, rfl⟩ : ∃ z : Nat, a1 = (z : Int) := ⟨Int.toNat a1, by omega⟩
    obtain ⟨l0, l1, l2, l3, l4, l5⟩ := hO.2.2.1 s0 (by omega)
    obtain rfl : a2 = 3 := hin.2
    have y5 : 0 ≤ a3 ∧ a3 < N 5 → 0 ≤ N (Int.toNat ((15 + (11 * a3)) + 5)) ∧ N (Int.toNat ((15 + (11 * a3)) + 5)) ≤ 999 := fun p => by have w := (hX.1.2.2.1 (Int.toNat a3) (by omega)).2.2.2.2.2.1; rw [show Int.toNat ((15 + (11 * a3)) + 5) = 20 + 11 * Int.toNat a3 by omega]; exact w
    refine a_aload_n (j := 1) dL_law_1431 rfl rfl (Nat.le_of_ble_eq_true rfl) ?_
    refine a_aload_n (j := 0) dL_law_1432 rfl rfl (Nat.le_of_ble_eq_true rfl) ?_
    refine a_iload_n (j := 3) dL_law_1433 rfl rfl ?_
    refine a_iconst dL_law_1434 ⟨by decide, by decide⟩ ?_
    refine a_iadd (z := (((i : Nat) : Int) + 1)) dL_law_1435 (w_ok (by omega) (by omega)) ?_
    refine a_sld (i + 1) dL_law_1436 (by omega) (by omega) ?_
    rw [ha1]
    refine a_aload_n (j := 0) dL_law_1437 rfl rfl (Nat.le_of_ble_eq_true rfl) ?_
    refine a_iload_n (j := 3) dL_law_1438 rfl rfl ?_
    refine a_iconst dL_law_1439 ⟨by decide, by decide⟩ ?_
    refine a_iadd (z := (((i : Nat) : Int) + 2)) dL_law_1440 (w_ok (by omega) (by omega)) ?_
    refine a_sld (i + 2) dL_law_1441 (by omega) (by omega) ?_
    rw [ha2]
    refine a_aload_n (j := 0) dL_law_1442 rfl rfl (Nat.le_of_ble_eq_true rfl) ?_
    refine a_iload_n (j := 3) dL_law_1443 rfl rfl ?_
    refine a_iconst dL_law_1444 ⟨by decide, by decide⟩ ?_
    refine a_iadd (z := (((i : Nat) : Int) + 3)) dL_law_1445 (w_ok (by omega) (by omega)) ?_
    refine a_sld (i + 3) dL_law_1446 (by omega) (by omega) ?_
    rw [ha3]
    refine b_callV (d' := d - 1) (mc' := 0) (ms' := 0) (mc1 := mc) (ms1 := ms) (st := []) (b := 0) [vI ((s0 : Nat) : Int), vI 3, vI a3] dL_law_1447 mwX8_lay lkL_172 (by decide) rfl rc_X8 rfl (Nat.le_of_ble_eq_true rfl) (by omega) (by omega) (by omega) (c_X8_lay (v1 := (N 5)) (v2 := (h 148 s0)) (v3 := (h (90 + 2 * (Int.toNat a3)) 0)) (v4 := (h (90 + 2 * (Int.toNat a3)) 1)) (f5 := (h ((90 + 2 * (Int.toNat a3)) + 1))) (f6 := (h (((98 + 5 * s0) + 3) + 1))) (v7 := (h (8 + 2 * (Int.toNat a3)) 0)) (v8 := (h (8 + 2 * (Int.toNat a3)) 1)) (v9 := (h (8 + 2 * (Int.toNat a3)) 2)) (v10 := (h (8 + 2 * (Int.toNat a3)) 3)) (v11 := (h (8 + 2 * (Int.toNat a3)) 4)) (v12 := (h (8 + 2 * (Int.toNat a3)) 5)) (v13 := (h (8 + 2 * (Int.toNat a3)) 6)) (f14 := (h ((8 + 2 * (Int.toNat a3)) + 1))) (f15 := (h (((98 + 5 * s0) + 1) + 1))) (by omega)  hR.1.2.1 l0 rfl rfl rfl rfl rfl rfl rfl rfl rfl rfl rfl rfl rfl (show 0 ≤ (N 5) ∧ (N 5) ≤ 12 by omega) (fun t1_1_1 t10_2_1 c21_3_1 c37_4_1 c52_5_1 c95_6_1 c120_7_1 => ?_) (fun t1_1_1 t10_2_1 c21_3_1 c37_4_1 t41_8_1 c52_9_1 c65_10_1 c95_11_1 c120_12_1 => ?_) (fun t1_1_1 t10_2_1 c21_3_1 c37_4_1 t41_8_1 c52_9_1 c65_10_1 => ?_) (fun t1_1_1 t10_2_1 c21_3_1 c37_4_1 t41_8_1 => ?_) (fun t1_1_1 t10_2_1 c21_3_1 t29_13_1 c37_14_1 c52_15_1 c95_16_1 => ?_) (fun t1_1_1 t10_2_1 c21_3_1 t29_13_1 => ?_) (fun t1_1_1 t10_2_1 => ?_) (fun t1_1_1 => ?_))
    · have t1_1_1 : 0 ≤ ((s0 : Nat) : Int) ∧ ((s0 : Nat) : Int) ≤ 4 := t1_1_1
      have t10_2_1 : (0 : Int) ≤ (3 : Int) ∧ (3 : Int) ≤ (3 : Int) := t10_2_1
      have c21_3_1 : ¬ (3 : Int) = (1 : Int) := c21_3_1
      have c37_4_1 : ¬ (3 : Int) = (2 : Int) := c37_4_1
      have c52_5_1 : ¬ (3 : Int) = (2 : Int) := c52_5_1
      have c95_6_1 : ¬ (3 : Int) = (1 : Int) := c95_6_1
      have c120_7_1 : ¬ (3 : Int) = (2 : Int) := c120_7_1
      show Aj γ mL_law d mc ms Post 1450 [(0, vK 0), (1, vA 0), (2, vA 123), (3, vI ((i : Nat) : Int))] [vI (h 148 s0)] (mk (up2 (up2 h (98 + 5 * s0) 0 3) (98 + 5 * s0) 1 a3) τ)
      refine a_aload_n (j := 2) dL_law_1450 rfl rfl (Nat.le_of_ble_eq_true rfl) ?_
      refine a_aload_n (j := 0) dL_law_1451 rfl rfl (Nat.le_of_ble_eq_true rfl) ?_
      refine a_iload_n (j := 3) dL_law_1452 rfl rfl ?_
      refine a_iconst dL_law_1453 ⟨by decide, by decide⟩ ?_
      refine a_iadd (z := (((i : Nat) : Int) + 1)) dL_law_1454 (w_ok (by omega) (by omega)) ?_
      refine a_sld (i + 1) dL_law_1455 (by omega) (by omega) ?_
      rw [ha1]
      refine a_aload_n (j := 0) dL_law_1456 rfl rfl (Nat.le_of_ble_eq_true rfl) ?_
      refine a_iload_n (j := 3) dL_law_1457 rfl rfl ?_
      refine a_iconst dL_law_1458 ⟨by decide, by decide⟩ ?_
      refine a_iadd (z := (((i : Nat) : Int) + 2)) dL_law_1459 (w_ok (by omega) (by omega)) ?_
      refine a_sld (i + 2) dL_law_1460 (by omega) (by omega) ?_
      rw [ha2]
      refine a_aload_n (j := 0) dL_law_1461 rfl rfl (Nat.le_of_ble_eq_true rfl) ?_
      refine a_iload_n (j := 3) dL_law_1462 rfl rfl ?_
      refine a_iconst dL_law_1463 ⟨by decide, by decide⟩ ?_
      refine a_iadd (z := (((i : Nat) : Int) + 3)) dL_law_1464 (w_ok (by omega) (by omega)) ?_
      refine a_sld (i + 3) dL_law_1465 (by omega) (by omega) ?_
      rw [ha3]
      refine b_callV (d' := d - 1) (mc' := 0) (ms' := 0) (mc1 := mc) (ms1 := ms) (st := [vI (h 148 s0)]) (b := 123) [vI ((s0 : Nat) : Int), vI 3, vI a3] dL_law_1466 mwX9_lay lkL_175 (by decide) rfl rc_X9 rfl (Nat.le_of_ble_eq_true rfl) (by omega) (by omega) (by omega) (c_X9_lay (v1 := (N 5)) (v2 := (N (Int.toNat ((15 + (11 * a3)) + 5)))) (v3 := (h 148 s0)) (v4 := (h 145 (Int.toNat a3))) (v5 := (h 146 (Int.toNat a3))) (f6 := (h 147)) (f7 := (h 151)) (v8 := (N (Int.toNat ((15 + (11 * a3)) + 0)))) (by omega)  ((up2_ne (by omega)).trans ((up2_ne (by omega)).trans (congrFun hN _))) ((up2_ne (by omega)).trans ((up2_ne (by omega)).trans (congrFun hN _))) ((up2_ne (by omega)).trans ((up2_ne (by omega)).trans rfl)) ((up2_ne (by omega)).trans ((up2_ne (by omega)).trans rfl)) ((up2_ne (by omega)).trans ((up2_ne (by omega)).trans rfl)) ((up2_row (by omega)).trans ((up2_row (by omega)).trans rfl)) ((up2_row (by omega)).trans ((up2_row (by omega)).trans rfl)) ((up2_ne (by omega)).trans ((up2_ne (by omega)).trans (congrFun hN _))) (show 0 ≤ (N 5) ∧ (N 5) ≤ 12 by omega) (show Im a3 (N 5) (0 ≤ (N (Int.toNat ((15 + (11 * a3)) + 5))) ∧ (N (Int.toNat ((15 + (11 * a3)) + 5))) ≤ 999) from fun _ _ => (by omega)) (fun t1_1_3 t10_2_3 c18_3_3 c31_4_3 c46_5_3 c84_7_3 c98_8_3 c119_9_3 c154_10_3 => ?_) (fun t1_1_3 t10_2_3 c18_3_3 c31_4_3 t35_11_3 c46_12_3 c55_14_3 c84_16_3 c98_17_3 c119_19_3 => ?_) (fun t1_1_3 t10_2_3 c18_3_3 c31_4_3 t35_11_3 c46_12_3 c55_14_3 => ?_) (fun t1_1_3 t10_2_3 c18_3_3 c31_4_3 t35_11_3 => ?_) (fun t1_1_3 t10_2_3 c18_3_3 t23_20_3 c31_21_3 c46_22_3 c84_24_3 c119_25_3 c154_26_3 => ?_) (fun t1_1_3 t10_2_3 c18_3_3 t23_20_3 => ?_) (fun t1_1_3 t10_2_3 => ?_) (fun t1_1_3 => ?_))
      · have t1_1_3 : 0 ≤ ((s0 : Nat) : Int) ∧ ((s0 : Nat) : Int) ≤ 4 := t1_1_3
        have t10_2_3 : (0 : Int) ≤ (3 : Int) ∧ (3 : Int) ≤ (3 : Int) := t10_2_3
        have c18_3_3 : ¬ (3 : Int) = (1 : Int) := c18_3_3
        have c31_4_3 : ¬ (3 : Int) = (2 : Int) := c31_4_3
        have c46_5_3 : ¬ (3 : Int) = (2 : Int) := c46_5_3
        have c84_7_3 : ¬ (3 : Int) = (1 : Int) := c84_7_3
        have c98_8_3 : ¬ (3 : Int) = (2 : Int) := c98_8_3
        have c119_9_3 : ¬ (3 : Int) = (1 : Int) := c119_9_3
        have c154_10_3 : ¬ (3 : Int) = (2 : Int) := c154_10_3
        show Aj γ mL_law d mc ms Post 1469 [(0, vK 0), (1, vA 0), (2, vA 123), (3, vI ((i : Nat) : Int))] [vI (h 148 s0), vI (h 148 s0)] (mk (up2 (up2 (up2 (up2 (up2 h (98 + 5 * s0) 0 3) (98 + 5 * s0) 1 a3) 148 s0 3) 149 s0 a3) 150 s0 0) τ)
        refine a_icmp_eq (tgt := 1668) dL_law_1469 (by decide) (fun c1469_5 => ?_) (fun c1469_5 => ?_)
        · generalize hHH : (up2 (up2 (up2 (up2 (up2 h (98 + 5 * s0) 0 3) (98 + 5 * s0) 1 a3) 148 s0 3) 149 s0 a3) 150 s0 0) = H
          have gR : ∀ c, (c < 98 ∨ 123 ≤ c) → c ≠ 148 → c ≠ 149 → c ≠ 150 → c ≠ 151 → H c = h c := fun c q0_ q1_ q2_ q3_ q4_ => by rw [← hHH]; exact ((up2_row (by omega)).trans ((up2_row (by omega)).trans ((up2_row (by omega)).trans ((up2_row (by omega)).trans ((up2_row (by omega)).trans rfl)))))
          have c0_ : H (98 + 5 * s0) 0 = 3 := by rw [← hHH]; exact ((up2_ne (by omega)).trans ((up2_ne (by omega)).trans ((up2_ne (by omega)).trans ((up2_ne (by omega)).trans (up2_hit (by omega) (by omega))))))
          have x0_ : H 148 s0 = 3 := by rw [← hHH]; exact ((up2_ne (by omega)).trans ((up2_ne (by omega)).trans (up2_hit (by omega) (by omega))))
          have x9_ : H 149 s0 = a3 := by rw [← hHH]; exact ((up2_ne (by omega)).trans (up2_hit (by omega) (by omega)))
          have xb_ : H 150 s0 = 0 := by rw [← hHH]; exact (up2_hit (by omega) (by omega))
          have eo_ : ∀ c, 98 ≤ c → c < 123 → (c < 98 + 5 * s0 ∨ 98 + 5 * s0 + 5 ≤ c) → H c = h c := fun c q0_ q1_ q2_ => by rw [← hHH]; exact ((up2_row (by omega)).trans ((up2_row (by omega)).trans ((up2_row (by omega)).trans ((up2_row (by omega)).trans ((up2_row (by omega)).trans rfl)))))
          have o8_ : ∀ k : Nat, k ≠ s0 → H 148 k = h 148 k := fun k q0_ => by rw [← hHH]; exact ((up2_ne (by omega)).trans ((up2_ne (by omega)).trans ((up2_ne (by omega)).trans ((up2_ne (by omega)).trans ((up2_ne (by omega)).trans rfl)))))
          have o9_ : ∀ k : Nat, k ≠ s0 → H 149 k = h 149 k := fun k q0_ => by rw [← hHH]; exact ((up2_ne (by omega)).trans ((up2_ne (by omega)).trans ((up2_ne (by omega)).trans ((up2_ne (by omega)).trans ((up2_ne (by omega)).trans rfl)))))
          have ob_ : ∀ k : Nat, k ≠ s0 → H 150 k = h 150 k := fun k q0_ => by rw [← hHH]; exact ((up2_ne (by omega)).trans ((up2_ne (by omega)).trans ((up2_ne (by omega)).trans ((up2_ne (by omega)).trans ((up2_ne (by omega)).trans rfl)))))
          have o1m : ∀ k : Nat, H 151 k = h 151 k := fun k  => by rw [← hHH]; exact ((up2_ne (by omega)).trans ((up2_ne (by omega)).trans ((up2_ne (by omega)).trans ((up2_ne (by omega)).trans ((up2_ne (by omega)).trans rfl)))))
          have o1_ : ∀ k : Nat, k < 24 * s0 ∨ 24 * s0 + 24 ≤ k → H 151 k = h 151 k := fun k _ => o1m k
          have y1_ : H ((98 + 5 * s0) + 3) 1 = h ((98 + 5 * s0) + 3) 1 := by rw [← hHH]; exact ((up2_ne (by omega)).trans ((up2_ne (by omega)).trans ((up2_ne (by omega)).trans ((up2_ne (by omega)).trans ((up2_ne (by omega)).trans rfl)))))
          have z1_ : H (98 + 5 * s0) 1 = a3 := by rw [← hHH]; exact ((up2_ne (by omega)).trans ((up2_ne (by omega)).trans ((up2_ne (by omega)).trans (up2_hit (by omega) (by omega)))))
          have nw : SLs H s0 := by
            unfold SLs
            rw [c0_, x0_, x9_, show H (98 + 5 * s0 + 3) 1 = _ from y1_, z1_]
            exact ⟨rfl, by omega, fun e => by omega, fun e => by omega, fun _ => rfl, l5⟩
          have t1_ : H 84 1 = h 84 1 := by rw [← hHH]; exact ((up2_ne (by omega)).trans ((up2_ne (by omega)).trans ((up2_ne (by omega)).trans ((up2_ne (by omega)).trans ((up2_ne (by omega)).trans rfl)))))
          have t3_ : H 123 17 = h 123 17 := by rw [← hHH]; exact ((up2_ne (by omega)).trans ((up2_ne (by omega)).trans ((up2_ne (by omega)).trans ((up2_ne (by omega)).trans ((up2_ne (by omega)).trans rfl)))))
          have w0_ : H 0 12 = h 0 12 := by rw [← hHH]; exact ((up2_ne (by omega)).trans ((up2_ne (by omega)).trans ((up2_ne (by omega)).trans ((up2_ne (by omega)).trans ((up2_ne (by omega)).trans rfl)))))
          have w1_ : H 123 44 = h 123 44 := by rw [← hHH]; exact ((up2_ne (by omega)).trans ((up2_ne (by omega)).trans ((up2_ne (by omega)).trans ((up2_ne (by omega)).trans ((up2_ne (by omega)).trans rfl)))))
          have g0 : ∀ k : Nat, k ≠ 12 → H 0 k = h 0 k := fun k q0_ => by rw [← hHH]; exact ((up2_ne (by omega)).trans ((up2_ne (by omega)).trans ((up2_ne (by omega)).trans ((up2_ne (by omega)).trans ((up2_ne (by omega)).trans rfl)))))
          have gF : ∀ c, ((1 ≤ c ∧ c < 84) ∨ (124 ≤ c ∧ c < 137)) → H c = h c := fun c q0_ => by rw [← hHH]; exact ((up2_row (by omega)).trans ((up2_row (by omega)).trans ((up2_row (by omega)).trans ((up2_row (by omega)).trans ((up2_row (by omega)).trans rfl)))))
          have k3_ : H 123 3 = h 123 3 := by rw [← hHH]; exact ((up2_ne (by omega)).trans ((up2_ne (by omega)).trans ((up2_ne (by omega)).trans ((up2_ne (by omega)).trans ((up2_ne (by omega)).trans rfl)))))
          have k4_ : H 123 4 = h 123 4 := by rw [← hHH]; exact ((up2_ne (by omega)).trans ((up2_ne (by omega)).trans ((up2_ne (by omega)).trans ((up2_ne (by omega)).trans ((up2_ne (by omega)).trans rfl)))))
          have k9_ : H 123 9 = h 123 9 := by rw [← hHH]; exact ((up2_ne (by omega)).trans ((up2_ne (by omega)).trans ((up2_ne (by omega)).trans ((up2_ne (by omega)).trans ((up2_ne (by omega)).trans rfl)))))
          have g3 : ∀ k, k = 3 ∨ k = 4 ∨ k = 9 → H 123 k = h 123 k := fun k hk => by rcases hk with rfl | rfl | rfl; exact k3_; exact k4_; exact k9_
          exact kE H N J (IV_up (by omega) (IV_o hI gF g0 g3 ⟨TPE_fr t1_ (gR 85 (by omega) (by decide) (by decide) (by decide) (by decide)) t3_ (gR 137 (by omega) (by decide) (by decide) (by decide) (by decide)) hO.1, SHE_fr (fun c h1 h2 => gR c (by omega) (by omega) (by omega) (by omega) (by omega)) (gR 145 (by omega) (by decide) (by decide) (by decide) (by decide)) (gR 146 (by omega) (by decide) (by decide) (by decide) (by decide)) (gR 147 (by omega) (by decide) (by decide) (by decide) (by decide)) hO.2.1, SLE_u (by omega) eo_ o8_ o9_ ob_ o1_ nw hO.2.2.1, WTE_fr w0_ w1_ (gR 89 (by omega) (by decide) (by decide) (by decide) (by decide)) (gR 153 (by omega) (by decide) (by decide) (by decide) (by decide)) hO.2.2.2.1, CNE_fr (gR 138 (by omega) (by decide) (by decide) (by decide) (by decide)) (gR 139 (by omega) (by decide) (by decide) (by decide) (by decide)) hO.2.2.2.2⟩))
        · refine a_iconst dL_law_1472 ⟨by decide, by decide⟩ ?_
          exact a_zret dL_law_1473 rfl (by first | exact Or.inl rfl | exact Or.inr rfl | omega) (by exfalso; omega)
      · exact absurd c31_4_3 (by decide)
      · exact absurd c31_4_3 (by decide)
      · exact absurd c31_4_3 (by decide)
      · exact absurd c18_3_3 (by decide)
      · exact absurd c18_3_3 (by decide)
      · exfalso
        omega
      · exfalso
        omega
    · exact absurd c37_4_1 (by decide)
    · exact absurd c37_4_1 (by decide)
    · exact absurd c37_4_1 (by decide)
    · exact absurd c21_3_1 (by decide)
    · exact absurd c21_3_1 (by decide)
    · have t1_1_1 : 0 ≤ ((s0 : Nat) : Int) ∧ ((s0 : Nat) : Int) ≤ 4 := t1_1_1
      have t10_2_1 : ¬ ((0 : Int) ≤ (3 : Int) ∧ (3 : Int) ≤ (3 : Int)) := t10_2_1
      show Aj γ mL_law d mc ms Post 1450 [(0, vK 0), (1, vA 0), (2, vA 123), (3, vI ((i : Nat) : Int))] [vI (-1000000001)] (mk h τ)
      refine a_aload_n (j := 2) dL_law_1450 rfl rfl (Nat.le_of_ble_eq_true rfl) ?_
      refine a_aload_n (j := 0) dL_law_1451 rfl rfl (Nat.le_of_ble_eq_true rfl) ?_
      refine a_iload_n (j := 3) dL_law_1452 rfl rfl ?_
      refine a_iconst dL_law_1453 ⟨by decide, by decide⟩ ?_
      refine a_iadd (z := (((i : Nat) : Int) + 1)) dL_law_1454 (w_ok (by omega) (by omega)) ?_
      refine a_sld (i + 1) dL_law_1455 (by omega) (by omega) ?_
      rw [ha1]
      refine a_aload_n (j := 0) dL_law_1456 rfl rfl (Nat.le_of_ble_eq_true rfl) ?_
      refine a_iload_n (j := 3) dL_law_1457 rfl rfl ?_
      refine a_iconst dL_law_1458 ⟨by decide, by decide⟩ ?_
      refine a_iadd (z := (((i : Nat) : Int) + 2)) dL_law_1459 (w_ok (by omega) (by omega)) ?_
      refine a_sld (i + 2) dL_law_1460 (by omega) (by omega) ?_
      rw [ha2]
      refine a_aload_n (j := 0) dL_law_1461 rfl rfl (Nat.le_of_ble_eq_true rfl) ?_
      refine a_iload_n (j := 3) dL_law_1462 rfl rfl ?_
      refine a_iconst dL_law_1463 ⟨by decide, by decide⟩ ?_
      refine a_iadd (z := (((i : Nat) : Int) + 3)) dL_law_1464 (w_ok (by omega) (by omega)) ?_
      refine a_sld (i + 3) dL_law_1465 (by omega) (by omega) ?_
      rw [ha3]
      refine b_callV (d' := d - 1) (mc' := 0) (ms' := 0) (mc1 := mc) (ms1 := ms) (st := [vI (-1000000001)]) (b := 123) [vI ((s0 : Nat) : Int), vI 3, vI a3] dL_law_1466 mwX9_lay lkL_175 (by decide) rfl rc_X9 rfl (Nat.le_of_ble_eq_true rfl) (by omega) (by omega) (by omega) (c_X9_lay (v1 := (N 5)) (v2 := (N (Int.toNat ((15 + (11 * a3)) + 5)))) (v3 := (h 148 s0)) (v4 := (h 145 (Int.toNat a3))) (v5 := (h 146 (Int.toNat a3))) (f6 := (h 147)) (f7 := (h 151)) (v8 := (N (Int.toNat ((15 + (11 * a3)) + 0)))) (by omega)  (congrFun hN _) (congrFun hN _) rfl rfl rfl rfl rfl (congrFun hN _) (show 0 ≤ (N 5) ∧ (N 5) ≤ 12 by omega) (show Im a3 (N 5) (0 ≤ (N (Int.toNat ((15 + (11 * a3)) + 5))) ∧ (N (Int.toNat ((15 + (11 * a3)) + 5))) ≤ 999) from fun _ _ => (by omega)) (fun t1_1_6 t10_2_6 c18_3_6 c31_4_6 c46_5_6 c84_7_6 c98_8_6 c119_9_6 c154_10_6 => ?_) (fun t1_1_6 t10_2_6 c18_3_6 c31_4_6 t35_11_6 c46_12_6 c55_14_6 c84_16_6 c98_17_6 c119_19_6 => ?_) (fun t1_1_6 t10_2_6 c18_3_6 c31_4_6 t35_11_6 c46_12_6 c55_14_6 => ?_) (fun t1_1_6 t10_2_6 c18_3_6 c31_4_6 t35_11_6 => ?_) (fun t1_1_6 t10_2_6 c18_3_6 t23_20_6 c31_21_6 c46_22_6 c84_24_6 c119_25_6 c154_26_6 => ?_) (fun t1_1_6 t10_2_6 c18_3_6 t23_20_6 => ?_) (fun t1_1_6 t10_2_6 => ?_) (fun t1_1_6 => ?_))
      · exfalso
        omega
      · exact absurd c31_4_6 (by decide)
      · exact absurd c31_4_6 (by decide)
      · exact absurd c31_4_6 (by decide)
      · exact absurd c18_3_6 (by decide)
      · exact absurd c18_3_6 (by decide)
      · have t1_1_6 : 0 ≤ ((s0 : Nat) : Int) ∧ ((s0 : Nat) : Int) ≤ 4 := t1_1_6
        have t10_2_6 : ¬ ((0 : Int) ≤ (3 : Int) ∧ (3 : Int) ≤ (3 : Int)) := t10_2_6
        show Aj γ mL_law d mc ms Post 1469 [(0, vK 0), (1, vA 0), (2, vA 123), (3, vI ((i : Nat) : Int))] [vI (-1000000001), vI (-1000000001)] (mk h τ)
        refine a_icmp_eq (tgt := 1668) dL_law_1469 (by decide) (fun _ => ?_) (fun c => absurd c (by decide))
        exact kE h N J (IV_up (by omega) hI)
      · exfalso
        omega
    · exfalso
      omega
  · obtain ⟨s0, rfl⟩ : ∃ z : Nat, a1 = (z : Int) := ⟨Int.toNat a1, by omega⟩
    obtain ⟨l0, l1, l2, l3, l4, l5⟩ := hO.2.2.1 s0 (by omega)
    have y5 : 0 ≤ a3 ∧ a3 < N 5 → 0 ≤ N (Int.toNat ((15 + (11 * a3)) + 5)) ∧ N (Int.toNat ((15 + (11 * a3)) + 5)) ≤ 999 := fun p => by have w := (hX.1.2.2.1 (Int.toNat a3) (by omega)).2.2.2.2.2.1; rw [show Int.toNat ((15 + (11 * a3)) + 5) = 20 + 11 * Int.toNat a3 by omega]; exact w
    refine a_aload_n (j := 1) dL_law_1431 rfl rfl (Nat.le_of_ble_eq_true rfl) ?_
    refine a_aload_n (j := 0) dL_law_1432 rfl rfl (Nat.le_of_ble_eq_true rfl) ?_
    refine a_iload_n (j := 3) dL_law_1433 rfl rfl ?_
    refine a_iconst dL_law_1434 ⟨by decide, by decide⟩ ?_
    refine a_iadd (z := (((i : Nat) : Int) + 1)) dL_law_1435 (w_ok (by omega) (by omega)) ?_
    refine a_sld (i + 1) dL_law_1436 (by omega) (by omega) ?_
    rw [ha1]
    refine a_aload_n (j := 0) dL_law_1437 rfl rfl (Nat.le_of_ble_eq_true rfl) ?_
    refine a_iload_n (j := 3) dL_law_1438 rfl rfl ?_
    refine a_iconst dL_law_1439 ⟨by decide, by decide⟩ ?_
    refine a_iadd (z := (((i : Nat) : Int) + 2)) dL_law_1440 (w_ok (by omega) (by omega)) ?_
    refine a_sld (i + 2) dL_law_1441 (by omega) (by omega) ?_
    rw [ha2]
    refine a_aload_n (j := 0) dL_law_1442 rfl rfl (Nat.le_of_ble_eq_true rfl) ?_
    refine a_iload_n (j := 3) dL_law_1443 rfl rfl ?_
    refine a_iconst dL_law_1444 ⟨by decide, by decide⟩ ?_
    refine a_iadd (z := (((i : Nat) : Int) + 3)) dL_law_1445 (w_ok (by omega) (by omega)) ?_
    refine a_sld (i + 3) dL_law_1446 (by omega) (by omega) ?_
    rw [ha3]
    refine b_callV (d' := d - 1) (mc' := 0) (ms' := 0) (mc1 := mc) (ms1 := ms) (st := []) (b := 0) [vI ((s0 : Nat) : Int), vI a2, vI a3] dL_law_1447 mwX8_lay lkL_172 (by decide) rfl rc_X8 rfl (Nat.le_of_ble_eq_true rfl) (by omega) (by omega) (by omega) (c_X8_lay (v1 := (N 5)) (v2 := (h 148 s0)) (v3 := (h (90 + 2 * (Int.toNat a3)) 0)) (v4 := (h (90 + 2 * (Int.toNat a3)) 1)) (f5 := (h ((90 + 2 * (Int.toNat a3)) + 1))) (f6 := (h (((98 + 5 * s0) + 3) + 1))) (v7 := (h (8 + 2 * (Int.toNat a3)) 0)) (v8 := (h (8 + 2 * (Int.toNat a3)) 1)) (v9 := (h (8 + 2 * (Int.toNat a3)) 2)) (v10 := (h (8 + 2 * (Int.toNat a3)) 3)) (v11 := (h (8 + 2 * (Int.toNat a3)) 4)) (v12 := (h (8 + 2 * (Int.toNat a3)) 5)) (v13 := (h (8 + 2 * (Int.toNat a3)) 6)) (f14 := (h ((8 + 2 * (Int.toNat a3)) + 1))) (f15 := (h (((98 + 5 * s0) + 1) + 1))) (by omega)  hR.1.2.1 l0 rfl rfl rfl rfl rfl rfl rfl rfl rfl rfl rfl rfl rfl (show 0 ≤ (N 5) ∧ (N 5) ≤ 12 by omega) (fun t1_1_1 t10_2_1 c21_3_1 c37_4_1 c52_5_1 c95_6_1 c120_7_1 => ?_) (fun t1_1_1 t10_2_1 c21_3_1 c37_4_1 t41_8_1 c52_9_1 c65_10_1 c95_11_1 c120_12_1 => ?_) (fun t1_1_1 t10_2_1 c21_3_1 c37_4_1 t41_8_1 c52_9_1 c65_10_1 => ?_) (fun t1_1_1 t10_2_1 c21_3_1 c37_4_1 t41_8_1 => ?_) (fun t1_1_1 t10_2_1 c21_3_1 t29_13_1 c37_14_1 c52_15_1 c95_16_1 => ?_) (fun t1_1_1 t10_2_1 c21_3_1 t29_13_1 => ?_) (fun t1_1_1 t10_2_1 => ?_) (fun t1_1_1 => ?_))
    · have t1_1_1 : 0 ≤ ((s0 : Nat) : Int) ∧ ((s0 : Nat) : Int) ≤ 4 := t1_1_1
      have t10_2_1 : 0 ≤ a2 ∧ a2 ≤ 3 := t10_2_1
      have c21_3_1 : ¬ a2 = 1 := c21_3_1
      have c37_4_1 : ¬ a2 = 2 := c37_4_1
      have c52_5_1 : ¬ a2 = 2 := c52_5_1
      have c95_6_1 : ¬ a2 = 1 := c95_6_1
      have c120_7_1 : ¬ a2 = 2 := c120_7_1
      show Aj γ mL_law d mc ms Post 1450 [(0, vK 0), (1, vA 0), (2, vA 123), (3, vI ((i : Nat) : Int))] [vI (h 148 s0)] (mk (up2 (up2 h (98 + 5 * s0) 0 a2) (98 + 5 * s0) 1 a3) τ)
      refine a_aload_n (j := 2) dL_law_1450 rfl rfl (Nat.le_of_ble_eq_true rfl) ?_
      refine a_aload_n (j := 0) dL_law_1451 rfl rfl (Nat.le_of_ble_eq_true rfl) ?_
      refine a_iload_n (j := 3) dL_law_1452 rfl rfl ?_
      refine a_iconst dL_law_1453 ⟨by decide, by decide⟩ ?_
      refine a_iadd (z := (((i : Nat) : Int) + 1)) dL_law_1454 (w_ok (by omega) (by omega)) ?_
      refine a_sld (i + 1) dL_law_1455 (by omega) (by omega) ?_
      rw [ha1]
      refine a_aload_n (j := 0) dL_law_1456 rfl rfl (Nat.le_of_ble_eq_true rfl) ?_
      refine a_iload_n (j := 3) dL_law_1457 rfl rfl ?_
      refine a_iconst dL_law_1458 ⟨by decide, by decide⟩ ?_
      refine a_iadd (z := (((i : Nat) : Int) + 2)) dL_law_1459 (w_ok (by omega) (by omega)) ?_
      refine a_sld (i + 2) dL_law_1460 (by omega) (by omega) ?_
      rw [ha2]
      refine a_aload_n (j := 0) dL_law_1461 rfl rfl (Nat.le_of_ble_eq_true rfl) ?_
      refine a_iload_n (j := 3) dL_law_1462 rfl rfl ?_
      refine a_iconst dL_law_1463 ⟨by decide, by decide⟩ ?_
      refine a_iadd (z := (((i : Nat) : Int) + 3)) dL_law_1464 (w_ok (by omega) (by omega)) ?_
      refine a_sld (i + 3) dL_law_1465 (by omega) (by omega) ?_
      rw [ha3]
      refine b_callV (d' := d - 1) (mc' := 0) (ms' := 0) (mc1 := mc) (ms1 := ms) (st := [vI (h 148 s0)]) (b := 123) [vI ((s0 : Nat) : Int), vI a2, vI a3] dL_law_1466 mwX9_lay lkL_175 (by decide) rfl rc_X9 rfl (Nat.le_of_ble_eq_true rfl) (by omega) (by omega) (by omega) (c_X9_lay (v1 := (N 5)) (v2 := (N (Int.toNat ((15 + (11 * a3)) + 5)))) (v3 := (h 148 s0)) (v4 := (h 145 (Int.toNat a3))) (v5 := (h 146 (Int.toNat a3))) (f6 := (h 147)) (f7 := (h 151)) (v8 := (N (Int.toNat ((15 + (11 * a3)) + 0)))) (by omega)  ((up2_ne (by omega)).trans ((up2_ne (by omega)).trans (congrFun hN _))) ((up2_ne (by omega)).trans ((up2_ne (by omega)).trans (congrFun hN _))) ((up2_ne (by omega)).trans ((up2_ne (by omega)).trans rfl)) ((up2_ne (by omega)).trans ((up2_ne (by omega)).trans rfl)) ((up2_ne (by omega)).trans ((up2_ne (by omega)).trans rfl)) ((up2_row (by omega)).trans ((up2_row (by omega)).trans rfl)) ((up2_row (by omega)).trans ((up2_row (by omega)).trans rfl)) ((up2_ne (by omega)).trans ((up2_ne (by omega)).trans (congrFun hN _))) (show 0 ≤ (N 5) ∧ (N 5) ≤ 12 by omega) (show Im a3 (N 5) (0 ≤ (N (Int.toNat ((15 + (11 * a3)) + 5))) ∧ (N (Int.toNat ((15 + (11 * a3)) + 5))) ≤ 999) from fun _ _ => (by omega)) (fun t1_1_3 t10_2_3 c18_3_3 c31_4_3 c46_5_3 c84_7_3 c98_8_3 c119_9_3 c154_10_3 => ?_) (fun t1_1_3 t10_2_3 c18_3_3 c31_4_3 t35_11_3 c46_12_3 c55_14_3 c84_16_3 c98_17_3 c119_19_3 => ?_) (fun t1_1_3 t10_2_3 c18_3_3 c31_4_3 t35_11_3 c46_12_3 c55_14_3 => ?_) (fun t1_1_3 t10_2_3 c18_3_3 c31_4_3 t35_11_3 => ?_) (fun t1_1_3 t10_2_3 c18_3_3 t23_20_3 c31_21_3 c46_22_3 c84_24_3 c119_25_3 c154_26_3 => ?_) (fun t1_1_3 t10_2_3 c18_3_3 t23_20_3 => ?_) (fun t1_1_3 t10_2_3 => ?_) (fun t1_1_3 => ?_))
      · have t1_1_3 : 0 ≤ ((s0 : Nat) : Int) ∧ ((s0 : Nat) : Int) ≤ 4 := t1_1_3
        have t10_2_3 : 0 ≤ a2 ∧ a2 ≤ 3 := t10_2_3
        have c18_3_3 : ¬ a2 = 1 := c18_3_3
        have c31_4_3 : ¬ a2 = 2 := c31_4_3
        have c46_5_3 : ¬ a2 = 2 := c46_5_3
        have c84_7_3 : ¬ a2 = 1 := c84_7_3
        have c98_8_3 : ¬ a2 = 2 := c98_8_3
        have c119_9_3 : ¬ a2 = 1 := c119_9_3
        have c154_10_3 : ¬ a2 = 2 := c154_10_3
        show Aj γ mL_law d mc ms Post 1469 [(0, vK 0), (1, vA 0), (2, vA 123), (3, vI ((i : Nat) : Int))] [vI (h 148 s0), vI (h 148 s0)] (mk (up2 (up2 (up2 (up2 (up2 h (98 + 5 * s0) 0 a2) (98 + 5 * s0) 1 a3) 148 s0 a2) 149 s0 a3) 150 s0 0) τ)
        refine a_icmp_eq (tgt := 1668) dL_law_1469 (by decide) (fun c1469_5 => ?_) (fun c1469_5 => ?_)
        · exfalso
          omega
        · refine a_iconst dL_law_1472 ⟨by decide, by decide⟩ ?_
          exact a_zret dL_law_1473 rfl (by first | exact Or.inl rfl | exact Or.inr rfl | omega) (by exfalso; omega)
      · exfalso
        omega
      · exfalso
        omega
      · exfalso
        omega
      · exfalso
        omega
      · exfalso
        omega
      · exfalso
        omega
      · exfalso
        omega
    · have t1_1_1 : 0 ≤ ((s0 : Nat) : Int) ∧ ((s0 : Nat) : Int) ≤ 4 := t1_1_1
      have t10_2_1 : 0 ≤ a2 ∧ a2 ≤ 3 := t10_2_1
      have c21_3_1 : ¬ a2 = 1 := c21_3_1
      have c37_4_1 : a2 = 2 := c37_4_1
      have t41_8_1 : 0 ≤ a3 ∧ a3 ≤ 3 := t41_8_1
      have c52_9_1 : a2 = 2 := c52_9_1
      have c65_10_1 : ¬ (h (90 + 2 * (Int.toNat a3)) 0) = (-1) := c65_10_1
      have c95_11_1 : ¬ a2 = 1 := c95_11_1
      have c120_12_1 : a2 = 2 := c120_12_1
      show Aj γ mL_law d mc ms Post 1450 [(0, vK 0), (1, vA 0), (2, vA 123), (3, vI ((i : Nat) : Int))] [vI (h 148 s0)] (mk (upR (up2 (up2 (up2 h (98 + 5 * s0) 0 a2) ((98 + 5 * s0) + 3) 0 (h (90 + 2 * (Int.toNat a3)) 0)) ((98 + 5 * s0) + 3) 1 (h (90 + 2 * (Int.toNat a3)) 1)) (((98 + 5 * s0) + 3) + 1) (cpy (h ((90 + 2 * (Int.toNat a3)) + 1)) (h (((98 + 5 * s0) + 3) + 1)) 0 0 24)) τ)
      refine a_aload_n (j := 2) dL_law_1450 rfl rfl (Nat.le_of_ble_eq_true rfl) ?_
      refine a_aload_n (j := 0) dL_law_1451 rfl rfl (Nat.le_of_ble_eq_true rfl) ?_
      refine a_iload_n (j := 3) dL_law_1452 rfl rfl ?_
      refine a_iconst dL_law_1453 ⟨by decide, by decide⟩ ?_
      refine a_iadd (z := (((i : Nat) : Int) + 1)) dL_law_1454 (w_ok (by omega) (by omega)) ?_
      refine a_sld (i + 1) dL_law_1455 (by omega) (by omega) ?_
      rw [ha1]
      refine a_aload_n (j := 0) dL_law_1456 rfl rfl (Nat.le_of_ble_eq_true rfl) ?_
      refine a_iload_n (j := 3) dL_law_1457 rfl rfl ?_
      refine a_iconst dL_law_1458 ⟨by decide, by decide⟩ ?_
      refine a_iadd (z := (((i : Nat) : Int) + 2)) dL_law_1459 (w_ok (by omega) (by omega)) ?_
      refine a_sld (i + 2) dL_law_1460 (by omega) (by omega) ?_
      rw [ha2]
      refine a_aload_n (j := 0) dL_law_1461 rfl rfl (Nat.le_of_ble_eq_true rfl) ?_
      refine a_iload_n (j := 3) dL_law_1462 rfl rfl ?_
      refine a_iconst dL_law_1463 ⟨by decide, by decide⟩ ?_
      refine a_iadd (z := (((i : Nat) : Int) + 3)) dL_law_1464 (w_ok (by omega) (by omega)) ?_
      refine a_sld (i + 3) dL_law_1465 (by omega) (by omega) ?_
      rw [ha3]
      refine b_callV (d' := d - 1) (mc' := 0) (ms' := 0) (mc1 := mc) (ms1 := ms) (st := [vI (h 148 s0)]) (b := 123) [vI ((s0 : Nat) : Int), vI a2, vI a3] dL_law_1466 mwX9_lay lkL_175 (by decide) rfl rc_X9 rfl (Nat.le_of_ble_eq_true rfl) (by omega) (by omega) (by omega) (c_X9_lay (v1 := (N 5)) (v2 := (N (Int.toNat ((15 + (11 * a3)) + 5)))) (v3 := (h 148 s0)) (v4 := (h 145 (Int.toNat a3))) (v5 := (h 146 (Int.toNat a3))) (f6 := (h 147)) (f7 := (h 151)) (v8 := (N (Int.toNat ((15 + (11 * a3)) + 0)))) (by omega)  ((upR_ne (by omega)).trans ((up2_ne (by omega)).trans ((up2_ne (by omega)).trans ((up2_ne (by omega)).trans (congrFun hN _))))) ((upR_ne (by omega)).trans ((up2_ne (by omega)).trans ((up2_ne (by omega)).trans ((up2_ne (by omega)).trans (congrFun hN _))))) ((upR_ne (by omega)).trans ((up2_ne (by omega)).trans ((up2_ne (by omega)).trans ((up2_ne (by omega)).trans rfl)))) ((upR_ne (by omega)).trans ((up2_ne (by omega)).trans ((up2_ne (by omega)).trans ((up2_ne (by omega)).trans rfl)))) ((upR_ne (by omega)).trans ((up2_ne (by omega)).trans ((up2_ne (by omega)).trans ((up2_ne (by omega)).trans rfl)))) ((upR_rn (by omega)).trans ((up2_row (by omega)).trans ((up2_row (by omega)).trans ((up2_row (by omega)).trans rfl)))) ((upR_rn (by omega)).trans ((up2_row (by omega)).trans ((up2_row (by omega)).trans ((up2_row (by omega)).trans rfl)))) ((upR_ne (by omega)).trans ((up2_ne (by omega)).trans ((up2_ne (by omega)).trans ((up2_ne (by omega)).trans (congrFun hN _))))) (show 0 ≤ (N 5) ∧ (N 5) ≤ 12 by omega) (show Im a3 (N 5) (0 ≤ (N (Int.toNat ((15 + (11 * a3)) + 5))) ∧ (N (Int.toNat ((15 + (11 * a3)) + 5))) ≤ 999) from fun _ _ => (by omega)) (fun t1_1_6 t10_2_6 c18_3_6 c31_4_6 c46_5_6 c84_7_6 c98_8_6 c119_9_6 c154_10_6 => ?_) (fun t1_1_6 t10_2_6 c18_3_6 c31_4_6 t35_11_6 c46_12_6 c55_14_6 c84_16_6 c98_17_6 c119_19_6 => ?_) (fun t1_1_6 t10_2_6 c18_3_6 c31_4_6 t35_11_6 c46_12_6 c55_14_6 => ?_) (fun t1_1_6 t10_2_6 c18_3_6 c31_4_6 t35_11_6 => ?_) (fun t1_1_6 t10_2_6 c18_3_6 t23_20_6 c31_21_6 c46_22_6 c84_24_6 c119_25_6 c154_26_6 => ?_) (fun t1_1_6 t10_2_6 c18_3_6 t23_20_6 => ?_) (fun t1_1_6 t10_2_6 => ?_) (fun t1_1_6 => ?_))
      · exfalso
        omega
      · have t1_1_6 : 0 ≤ ((s0 : Nat) : Int) ∧ ((s0 : Nat) : Int) ≤ 4 := t1_1_6
        have t10_2_6 : 0 ≤ a2 ∧ a2 ≤ 3 := t10_2_6
        have c18_3_6 : ¬ a2 = 1 := c18_3_6
        have c31_4_6 : a2 = 2 := c31_4_6
        have t35_11_6 : 0 ≤ a3 ∧ a3 ≤ 3 := t35_11_6
        have c46_12_6 : a2 = 2 := c46_12_6
        have c55_14_6 : 0 ≤ (h 145 (Int.toNat a3)) := c55_14_6
        have c84_16_6 : ¬ a2 = 1 := c84_16_6
        have c98_17_6 : a2 = 2 := c98_17_6
        have c119_19_6 : ¬ a2 = 1 := c119_19_6
        show Aj γ mL_law d mc ms Post 1469 [(0, vK 0), (1, vA 0), (2, vA 123), (3, vI ((i : Nat) : Int))] [vI (h 148 s0), vI (h 148 s0)] (mk (upR (up2 (up2 (up2 (upR (up2 (up2 (up2 h (98 + 5 * s0) 0 a2) ((98 + 5 * s0) + 3) 0 (h (90 + 2 * (Int.toNat a3)) 0)) ((98 + 5 * s0) + 3) 1 (h (90 + 2 * (Int.toNat a3)) 1)) (((98 + 5 * s0) + 3) + 1) (cpy (h ((90 + 2 * (Int.toNat a3)) + 1)) (h (((98 + 5 * s0) + 3) + 1)) 0 0 24)) 148 s0 a2) 149 s0 (h 146 (Int.toNat a3))) 150 s0 0) 151 (cpy (h 147) (h 151) (Int.toNat (24 * a3)) (Int.toNat (24 * ((s0 : Nat) : Int))) 24)) τ)
        refine a_icmp_eq (tgt := 1668) dL_law_1469 (by decide) (fun c1469_8 => ?_) (fun c1469_8 => ?_)
        · exfalso
          omega
        · refine a_iconst dL_law_1472 ⟨by decide, by decide⟩ ?_
          exact a_zret dL_law_1473 rfl (by first | exact Or.inl rfl | exact Or.inr rfl | omega) (by exfalso; omega)
      · have t1_1_6 : 0 ≤ ((s0 : Nat) : Int) ∧ ((s0 : Nat) : Int) ≤ 4 := t1_1_6
        have t10_2_6 : 0 ≤ a2 ∧ a2 ≤ 3 := t10_2_6
        have c18_3_6 : ¬ a2 = 1 := c18_3_6
        have c31_4_6 : a2 = 2 := c31_4_6
        have t35_11_6 : 0 ≤ a3 ∧ a3 ≤ 3 := t35_11_6
        have c46_12_6 : a2 = 2 := c46_12_6
        have c55_14_6 : ¬ 0 ≤ (h 145 (Int.toNat a3)) := c55_14_6
        show Aj γ mL_law d mc ms Post 1469 [(0, vK 0), (1, vA 0), (2, vA 123), (3, vI ((i : Nat) : Int))] [vI (-1000000011), vI (h 148 s0)] (mk (upR (up2 (up2 (up2 h (98 + 5 * s0) 0 a2) ((98 + 5 * s0) + 3) 0 (h (90 + 2 * (Int.toNat a3)) 0)) ((98 + 5 * s0) + 3) 1 (h (90 + 2 * (Int.toNat a3)) 1)) (((98 + 5 * s0) + 3) + 1) (cpy (h ((90 + 2 * (Int.toNat a3)) + 1)) (h (((98 + 5 * s0) + 3) + 1)) 0 0 24)) τ)
        refine a_icmp_eq (tgt := 1668) dL_law_1469 (by decide) (fun c1469_9 => ?_) (fun c1469_9 => ?_)
        · exfalso
          omega
        · refine a_iconst dL_law_1472 ⟨by decide, by decide⟩ ?_
          exact a_zret dL_law_1473 rfl (by first | exact Or.inl rfl | exact Or.inr rfl | omega) (by exfalso; omega)
      · exfalso
        omega
      · exfalso
        omega
      · exfalso
        omega
      · exfalso
        omega
      · exfalso
        omega
    · have t1_1_1 : 0 ≤ ((s0 : Nat) : Int) ∧ ((s0 : Nat) : Int) ≤ 4 := t1_1_1
      have t10_2_1 : 0 ≤ a2 ∧ a2 ≤ 3 := t10_2_1
      have c21_3_1 : ¬ a2 = 1 := c21_3_1
      have c37_4_1 : a2 = 2 := c37_4_1
      have t41_8_1 : 0 ≤ a3 ∧ a3 ≤ 3 := t41_8_1
      have c52_9_1 : a2 = 2 := c52_9_1
      have c65_10_1 : (h (90 + 2 * (Int.toNat a3)) 0) = (-1) := c65_10_1
      show Aj γ mL_law d mc ms Post 1450 [(0, vK 0), (1, vA 0), (2, vA 123), (3, vI ((i : Nat) : Int))] [vI (-1000000011)] (mk h τ)
      refine a_aload_n (j := 2) dL_law_1450 rfl rfl (Nat.le_of_ble_eq_true rfl) ?_
      refine a_aload_n (j := 0) dL_law_1451 rfl rfl (Nat.le_of_ble_eq_true rfl) ?_
      refine a_iload_n (j := 3) dL_law_1452 rfl rfl ?_
      refine a_iconst dL_law_1453 ⟨by decide, by decide⟩ ?_
      refine a_iadd (z := (((i : Nat) : Int) + 1)) dL_law_1454 (w_ok (by omega) (by omega)) ?_
      refine a_sld (i + 1) dL_law_1455 (by omega) (by omega) ?_
      rw [ha1]
      refine a_aload_n (j := 0) dL_law_1456 rfl rfl (Nat.le_of_ble_eq_true rfl) ?_
      refine a_iload_n (j := 3) dL_law_1457 rfl rfl ?_
      refine a_iconst dL_law_1458 ⟨by decide, by decide⟩ ?_
      refine a_iadd (z := (((i : Nat) : Int) + 2)) dL_law_1459 (w_ok (by omega) (by omega)) ?_
      refine a_sld (i + 2) dL_law_1460 (by omega) (by omega) ?_
      rw [ha2]
      refine a_aload_n (j := 0) dL_law_1461 rfl rfl (Nat.le_of_ble_eq_true rfl) ?_
      refine a_iload_n (j := 3) dL_law_1462 rfl rfl ?_
      refine a_iconst dL_law_1463 ⟨by decide, by decide⟩ ?_
      refine a_iadd (z := (((i : Nat) : Int) + 3)) dL_law_1464 (w_ok (by omega) (by omega)) ?_
      refine a_sld (i + 3) dL_law_1465 (by omega) (by omega) ?_
      rw [ha3]
      refine b_callV (d' := d - 1) (mc' := 0) (ms' := 0) (mc1 := mc) (ms1 := ms) (st := [vI (-1000000011)]) (b := 123) [vI ((s0 : Nat) : Int), vI a2, vI a3] dL_law_1466 mwX9_lay lkL_175 (by decide) rfl rc_X9 rfl (Nat.le_of_ble_eq_true rfl) (by omega) (by omega) (by omega) (c_X9_lay (v1 := (N 5)) (v2 := (N (Int.toNat ((15 + (11 * a3)) + 5)))) (v3 := (h 148 s0)) (v4 := (h 145 (Int.toNat a3))) (v5 := (h 146 (Int.toNat a3))) (f6 := (h 147)) (f7 := (h 151)) (v8 := (N (Int.toNat ((15 + (11 * a3)) + 0)))) (by omega)  (congrFun hN _) (congrFun hN _) rfl rfl rfl rfl rfl (congrFun hN _) (show 0 ≤ (N 5) ∧ (N 5) ≤ 12 by omega) (show Im a3 (N 5) (0 ≤ (N (Int.toNat ((15 + (11 * a3)) + 5))) ∧ (N (Int.toNat ((15 + (11 * a3)) + 5))) ≤ 999) from fun _ _ => (by omega)) (fun t1_1_10 t10_2_10 c18_3_10 c31_4_10 c46_5_10 c84_7_10 c98_8_10 c119_9_10 c154_10_10 => ?_) (fun t1_1_10 t10_2_10 c18_3_10 c31_4_10 t35_11_10 c46_12_10 c55_14_10 c84_16_10 c98_17_10 c119_19_10 => ?_) (fun t1_1_10 t10_2_10 c18_3_10 c31_4_10 t35_11_10 c46_12_10 c55_14_10 => ?_) (fun t1_1_10 t10_2_10 c18_3_10 c31_4_10 t35_11_10 => ?_) (fun t1_1_10 t10_2_10 c18_3_10 t23_20_10 c31_21_10 c46_22_10 c84_24_10 c119_25_10 c154_26_10 => ?_) (fun t1_1_10 t10_2_10 c18_3_10 t23_20_10 => ?_) (fun t1_1_10 t10_2_10 => ?_) (fun t1_1_10 => ?_))
      · exfalso
        omega
      · have t1_1_10 : 0 ≤ ((s0 : Nat) : Int) ∧ ((s0 : Nat) : Int) ≤ 4 := t1_1_10
        have t10_2_10 : 0 ≤ a2 ∧ a2 ≤ 3 := t10_2_10
        have c18_3_10 : ¬ a2 = 1 := c18_3_10
        have c31_4_10 : a2 = 2 := c31_4_10
        have t35_11_10 : 0 ≤ a3 ∧ a3 ≤ 3 := t35_11_10
        have c46_12_10 : a2 = 2 := c46_12_10
        have c55_14_10 : 0 ≤ (h 145 (Int.toNat a3)) := c55_14_10
        have c84_16_10 : ¬ a2 = 1 := c84_16_10
        have c98_17_10 : a2 = 2 := c98_17_10
        have c119_19_10 : ¬ a2 = 1 := c119_19_10
        show Aj γ mL_law d mc ms Post 1469 [(0, vK 0), (1, vA 0), (2, vA 123), (3, vI ((i : Nat) : Int))] [vI (h 148 s0), vI (-1000000011)] (mk (upR (up2 (up2 (up2 h 148 s0 a2) 149 s0 (h 146 (Int.toNat a3))) 150 s0 0) 151 (cpy (h 147) (h 151) (Int.toNat (24 * a3)) (Int.toNat (24 * ((s0 : Nat) : Int))) 24)) τ)
        refine a_icmp_eq (tgt := 1668) dL_law_1469 (by decide) (fun c1469_12 => ?_) (fun c1469_12 => ?_)
        · exfalso
          omega
        · refine a_iconst dL_law_1472 ⟨by decide, by decide⟩ ?_
          exact a_zret dL_law_1473 rfl (by first | exact Or.inl rfl | exact Or.inr rfl | omega) (by exfalso; omega)
      · have t1_1_10 : 0 ≤ ((s0 : Nat) : Int) ∧ ((s0 : Nat) : Int) ≤ 4 := t1_1_10
        have t10_2_10 : 0 ≤ a2 ∧ a2 ≤ 3 := t10_2_10
        have c18_3_10 : ¬ a2 = 1 := c18_3_10
        have c31_4_10 : a2 = 2 := c31_4_10
        have t35_11_10 : 0 ≤ a3 ∧ a3 ≤ 3 := t35_11_10
        have c46_12_10 : a2 = 2 := c46_12_10
        have c55_14_10 : ¬ 0 ≤ (h 145 (Int.toNat a3)) := c55_14_10
        show Aj γ mL_law d mc ms Post 1469 [(0, vK 0), (1, vA 0), (2, vA 123), (3, vI ((i : Nat) : Int))] [vI (-1000000011), vI (-1000000011)] (mk h τ)
        refine a_icmp_eq (tgt := 1668) dL_law_1469 (by decide) (fun _ => ?_) (fun c => absurd c (by decide))
        exact kE h N J (IV_up (by omega) hI)
      · exfalso
        omega
      · exfalso
        omega
      · exfalso
        omega
      · exfalso
        omega
      · exfalso
        omega
    · have t1_1_1 : 0 ≤ ((s0 : Nat) : Int) ∧ ((s0 : Nat) : Int) ≤ 4 := t1_1_1
      have t10_2_1 : 0 ≤ a2 ∧ a2 ≤ 3 := t10_2_1
      have c21_3_1 : ¬ a2 = 1 := c21_3_1
      have c37_4_1 : a2 = 2 := c37_4_1
      have t41_8_1 : ¬ (0 ≤ a3 ∧ a3 ≤ 3) := t41_8_1
      show Aj γ mL_law d mc ms Post 1450 [(0, vK 0), (1, vA 0), (2, vA 123), (3, vI ((i : Nat) : Int))] [vI (-1000000001)] (mk h τ)
      refine a_aload_n (j := 2) dL_law_1450 rfl rfl (Nat.le_of_ble_eq_true rfl) ?_
      refine a_aload_n (j := 0) dL_law_1451 rfl rfl (Nat.le_of_ble_eq_true rfl) ?_
      refine a_iload_n (j := 3) dL_law_1452 rfl rfl ?_
      refine a_iconst dL_law_1453 ⟨by decide, by decide⟩ ?_
      refine a_iadd (z := (((i : Nat) : Int) + 1)) dL_law_1454 (w_ok (by omega) (by omega)) ?_
      refine a_sld (i + 1) dL_law_1455 (by omega) (by omega) ?_
      rw [ha1]
      refine a_aload_n (j := 0) dL_law_1456 rfl rfl (Nat.le_of_ble_eq_true rfl) ?_
      refine a_iload_n (j := 3) dL_law_1457 rfl rfl ?_
      refine a_iconst dL_law_1458 ⟨by decide, by decide⟩ ?_
      refine a_iadd (z := (((i : Nat) : Int) + 2)) dL_law_1459 (w_ok (by omega) (by omega)) ?_
      refine a_sld (i + 2) dL_law_1460 (by omega) (by omega) ?_
      rw [ha2]
      refine a_aload_n (j := 0) dL_law_1461 rfl rfl (Nat.le_of_ble_eq_true rfl) ?_
      refine a_iload_n (j := 3) dL_law_1462 rfl rfl ?_
      refine a_iconst dL_law_1463 ⟨by decide, by decide⟩ ?_
      refine a_iadd (z := (((i : Nat) : Int) + 3)) dL_law_1464 (w_ok (by omega) (by omega)) ?_
      refine a_sld (i + 3) dL_law_1465 (by omega) (by omega) ?_
      rw [ha3]
      refine b_callV (d' := d - 1) (mc' := 0) (ms' := 0) (mc1 := mc) (ms1 := ms) (st := [vI (-1000000001)]) (b := 123) [vI ((s0 : Nat) : Int), vI a2, vI a3] dL_law_1466 mwX9_lay lkL_175 (by decide) rfl rc_X9 rfl (Nat.le_of_ble_eq_true rfl) (by omega) (by omega) (by omega) (c_X9_lay (v1 := (N 5)) (v2 := (N (Int.toNat ((15 + (11 * a3)) + 5)))) (v3 := (h 148 s0)) (v4 := (h 145 (Int.toNat a3))) (v5 := (h 146 (Int.toNat a3))) (f6 := (h 147)) (f7 := (h 151)) (v8 := (N (Int.toNat ((15 + (11 * a3)) + 0)))) (by omega)  (congrFun hN _) (congrFun hN _) rfl rfl rfl rfl rfl (congrFun hN _) (show 0 ≤ (N 5) ∧ (N 5) ≤ 12 by omega) (show Im a3 (N 5) (0 ≤ (N (Int.toNat ((15 + (11 * a3)) + 5))) ∧ (N (Int.toNat ((15 + (11 * a3)) + 5))) ≤ 999) from fun _ _ => (by omega)) (fun t1_1_13 t10_2_13 c18_3_13 c31_4_13 c46_5_13 c84_7_13 c98_8_13 c119_9_13 c154_10_13 => ?_) (fun t1_1_13 t10_2_13 c18_3_13 c31_4_13 t35_11_13 c46_12_13 c55_14_13 c84_16_13 c98_17_13 c119_19_13 => ?_) (fun t1_1_13 t10_2_13 c18_3_13 c31_4_13 t35_11_13 c46_12_13 c55_14_13 => ?_) (fun t1_1_13 t10_2_13 c18_3_13 c31_4_13 t35_11_13 => ?_) (fun t1_1_13 t10_2_13 c18_3_13 t23_20_13 c31_21_13 c46_22_13 c84_24_13 c119_25_13 c154_26_13 => ?_) (fun t1_1_13 t10_2_13 c18_3_13 t23_20_13 => ?_) (fun t1_1_13 t10_2_13 => ?_) (fun t1_1_13 => ?_))
      · exfalso
        omega
      · exfalso
        omega
      · exfalso
        omega
      · have t1_1_13 : 0 ≤ ((s0 : Nat) : Int) ∧ ((s0 : Nat) : Int) ≤ 4 := t1_1_13
        have t10_2_13 : 0 ≤ a2 ∧ a2 ≤ 3 := t10_2_13
        have c18_3_13 : ¬ a2 = 1 := c18_3_13
        have c31_4_13 : a2 = 2 := c31_4_13
        have t35_11_13 : ¬ (0 ≤ a3 ∧ a3 ≤ 3) := t35_11_13
        show Aj γ mL_law d mc ms Post 1469 [(0, vK 0), (1, vA 0), (2, vA 123), (3, vI ((i : Nat) : Int))] [vI (-1000000001), vI (-1000000001)] (mk h τ)
        refine a_icmp_eq (tgt := 1668) dL_law_1469 (by decide) (fun _ => ?_) (fun c => absurd c (by decide))
        exact kE h N J (IV_up (by omega) hI)
      · exfalso
        omega
      · exfalso
        omega
      · exfalso
        omega
      · exfalso
        omega
    · have t1_1_1 : 0 ≤ ((s0 : Nat) : Int) ∧ ((s0 : Nat) : Int) ≤ 4 := t1_1_1
      have t10_2_1 : 0 ≤ a2 ∧ a2 ≤ 3 := t10_2_1
      have c21_3_1 : a2 = 1 := c21_3_1
      have t29_13_1 : 0 ≤ a3 ∧ a3 < (N 5) := t29_13_1
      have c37_14_1 : ¬ a2 = 2 := c37_14_1
      have c52_15_1 : ¬ a2 = 2 := c52_15_1
      have c95_16_1 : a2 = 1 := c95_16_1
      show Aj γ mL_law d mc ms Post 1450 [(0, vK 0), (1, vA 0), (2, vA 123), (3, vI ((i : Nat) : Int))] [vI (h 148 s0)] (mk (upR (up2 (up2 (up2 (up2 (up2 (up2 (up2 (up2 h (98 + 5 * s0) 0 a2) ((98 + 5 * s0) + 1) 0 (h (8 + 2 * (Int.toNat a3)) 0)) ((98 + 5 * s0) + 1) 1 (h (8 + 2 * (Int.toNat a3)) 1)) ((98 + 5 * s0) + 1) 2 (h (8 + 2 * (Int.toNat a3)) 2)) ((98 + 5 * s0) + 1) 3 (h (8 + 2 * (Int.toNat a3)) 3)) ((98 + 5 * s0) + 1) 4 (h (8 + 2 * (Int.toNat a3)) 4)) ((98 + 5 * s0) + 1) 5 (h (8 + 2 * (Int.toNat a3)) 5)) ((98 + 5 * s0) + 1) 6 (h (8 + 2 * (Int.toNat a3)) 6)) (((98 + 5 * s0) + 1) + 1) (cpy (h ((8 + 2 * (Int.toNat a3)) + 1)) (h (((98 + 5 * s0) + 1) + 1)) 0 0 4)) τ)
      refine a_aload_n (j := 2) dL_law_1450 rfl rfl (Nat.le_of_ble_eq_true rfl) ?_
      refine a_aload_n (j := 0) dL_law_1451 rfl rfl (Nat.le_of_ble_eq_true rfl) ?_
      refine a_iload_n (j := 3) dL_law_1452 rfl rfl ?_
      refine a_iconst dL_law_1453 ⟨by decide, by decide⟩ ?_
      refine a_iadd (z := (((i : Nat) : Int) + 1)) dL_law_1454 (w_ok (by omega) (by omega)) ?_
      refine a_sld (i + 1) dL_law_1455 (by omega) (by omega) ?_
      rw [ha1]
      refine a_aload_n (j := 0) dL_law_1456 rfl rfl (Nat.le_of_ble_eq_true rfl) ?_
      refine a_iload_n (j := 3) dL_law_1457 rfl rfl ?_
      refine a_iconst dL_law_1458 ⟨by decide, by decide⟩ ?_
      refine a_iadd (z := (((i : Nat) : Int) + 2)) dL_law_1459 (w_ok (by omega) (by omega)) ?_
      refine a_sld (i + 2) dL_law_1460 (by omega) (by omega) ?_
      rw [ha2]
      refine a_aload_n (j := 0) dL_law_1461 rfl rfl (Nat.le_of_ble_eq_true rfl) ?_
      refine a_iload_n (j := 3) dL_law_1462 rfl rfl ?_
      refine a_iconst dL_law_1463 ⟨by decide, by decide⟩ ?_
      refine a_iadd (z := (((i : Nat) : Int) + 3)) dL_law_1464 (w_ok (by omega) (by omega)) ?_
      refine a_sld (i + 3) dL_law_1465 (by omega) (by omega) ?_
      rw [ha3]
      refine b_callV (d' := d - 1) (mc' := 0) (ms' := 0) (mc1 := mc) (ms1 := ms) (st := [vI (h 148 s0)]) (b := 123) [vI ((s0 : Nat) : Int), vI a2, vI a3] dL_law_1466 mwX9_lay lkL_175 (by decide) rfl rc_X9 rfl (Nat.le_of_ble_eq_true rfl) (by omega) (by omega) (by omega) (c_X9_lay (v1 := (N 5)) (v2 := (N (Int.toNat ((15 + (11 * a3)) + 5)))) (v3 := (h 148 s0)) (v4 := (h 145 (Int.toNat a3))) (v5 := (h 146 (Int.toNat a3))) (f6 := (h 147)) (f7 := (h 151)) (v8 := (N (Int.toNat ((15 + (11 * a3)) + 0)))) (by omega)  ((upR_ne (by omega)).trans ((up2_ne (by omega)).trans ((up2_ne (by omega)).trans ((up2_ne (by omega)).trans ((up2_ne (by omega)).trans ((up2_ne (by omega)).trans ((up2_ne (by omega)).trans ((up2_ne (by omega)).trans ((up2_ne (by omega)).trans (congrFun hN _)))))))))) ((upR_ne (by omega)).trans ((up2_ne (by omega)).trans ((up2_ne (by omega)).trans ((up2_ne (by omega)).trans ((up2_ne (by omega)).trans ((up2_ne (by omega)).trans ((up2_ne (by omega)).trans ((up2_ne (by omega)).trans ((up2_ne (by omega)).trans (congrFun hN _)))))))))) ((upR_ne (by omega)).trans ((up2_ne (by omega)).trans ((up2_ne (by omega)).trans ((up2_ne (by omega)).trans ((up2_ne (by omega)).trans ((up2_ne (by omega)).trans ((up2_ne (by omega)).trans ((up2_ne (by omega)).trans ((up2_ne (by omega)).trans rfl))))))))) ((upR_ne (by omega)).trans ((up2_ne (by omega)).trans ((up2_ne (by omega)).trans ((up2_ne (by omega)).trans ((up2_ne (by omega)).trans ((up2_ne (by omega)).trans ((up2_ne (by omega)).trans ((up2_ne (by omega)).trans ((up2_ne (by omega)).trans rfl))))))))) ((upR_ne (by omega)).trans ((up2_ne (by omega)).trans ((up2_ne (by omega)).trans ((up2_ne (by omega)).trans ((up2_ne (by omega)).trans ((up2_ne (by omega)).trans ((up2_ne (by omega)).trans ((up2_ne (by omega)).trans ((up2_ne (by omega)).trans rfl))))))))) ((upR_rn (by omega)).trans ((up2_row (by omega)).trans ((up2_row (by omega)).trans ((up2_row (by omega)).trans ((up2_row (by omega)).trans ((up2_row (by omega)).trans ((up2_row (by omega)).trans ((up2_row (by omega)).trans ((up2_row (by omega)).trans rfl))))))))) ((upR_rn (by omega)).trans ((up2_row (by omega)).trans ((up2_row (by omega)).trans ((up2_row (by omega)).trans ((up2_row (by omega)).trans ((up2_row (by omega)).trans ((up2_row (by omega)).trans ((up2_row (by omega)).trans ((up2_row (by omega)).trans rfl))))))))) ((upR_ne (by omega)).trans ((up2_ne (by omega)).trans ((up2_ne (by omega)).trans ((up2_ne (by omega)).trans ((up2_ne (by omega)).trans ((up2_ne (by omega)).trans ((up2_ne (by omega)).trans ((up2_ne (by omega)).trans ((up2_ne (by omega)).trans (congrFun hN _)))))))))) (show 0 ≤ (N 5) ∧ (N 5) ≤ 12 by omega) (show Im a3 (N 5) (0 ≤ (N (Int.toNat ((15 + (11 * a3)) + 5))) ∧ (N (Int.toNat ((15 + (11 * a3)) + 5))) ≤ 999) from fun _ _ => (by omega)) (fun t1_1_15 t10_2_15 c18_3_15 c31_4_15 c46_5_15 c84_7_15 c98_8_15 c119_9_15 c154_10_15 => ?_) (fun t1_1_15 t10_2_15 c18_3_15 c31_4_15 t35_11_15 c46_12_15 c55_14_15 c84_16_15 c98_17_15 c119_19_15 => ?_) (fun t1_1_15 t10_2_15 c18_3_15 c31_4_15 t35_11_15 c46_12_15 c55_14_15 => ?_) (fun t1_1_15 t10_2_15 c18_3_15 c31_4_15 t35_11_15 => ?_) (fun t1_1_15 t10_2_15 c18_3_15 t23_20_15 c31_21_15 c46_22_15 c84_24_15 c119_25_15 c154_26_15 => ?_) (fun t1_1_15 t10_2_15 c18_3_15 t23_20_15 => ?_) (fun t1_1_15 t10_2_15 => ?_) (fun t1_1_15 => ?_))
      · exfalso
        omega
      · exfalso
        omega
      · exfalso
        omega
      · exfalso
        omega
      · have t1_1_15 : 0 ≤ ((s0 : Nat) : Int) ∧ ((s0 : Nat) : Int) ≤ 4 := t1_1_15
        have t10_2_15 : 0 ≤ a2 ∧ a2 ≤ 3 := t10_2_15
        have c18_3_15 : a2 = 1 := c18_3_15
        have t23_20_15 : 0 ≤ a3 ∧ a3 < (N 5) := t23_20_15
        have c31_21_15 : ¬ a2 = 2 := c31_21_15
        have c46_22_15 : ¬ a2 = 2 := c46_22_15
        have c84_24_15 : a2 = 1 := c84_24_15
        have c119_25_15 : a2 = 1 := c119_25_15
        have c154_26_15 : ¬ a2 = 2 := c154_26_15
        show Aj γ mL_law d mc ms Post 1469 [(0, vK 0), (1, vA 0), (2, vA 123), (3, vI ((i : Nat) : Int))] [vI (h 148 s0), vI (h 148 s0)] (mk (up2 (up2 (up2 (upR (up2 (up2 (up2 (up2 (up2 (up2 (up2 (up2 h (98 + 5 * s0) 0 a2) ((98 + 5 * s0) + 1) 0 (h (8 + 2 * (Int.toNat a3)) 0)) ((98 + 5 * s0) + 1) 1 (h (8 + 2 * (Int.toNat a3)) 1)) ((98 + 5 * s0) + 1) 2 (h (8 + 2 * (Int.toNat a3)) 2)) ((98 + 5 * s0) + 1) 3 (h (8 + 2 * (Int.toNat a3)) 3)) ((98 + 5 * s0) + 1) 4 (h (8 + 2 * (Int.toNat a3)) 4)) ((98 + 5 * s0) + 1) 5 (h (8 + 2 * (Int.toNat a3)) 5)) ((98 + 5 * s0) + 1) 6 (h (8 + 2 * (Int.toNat a3)) 6)) (((98 + 5 * s0) + 1) + 1) (cpy (h ((8 + 2 * (Int.toNat a3)) + 1)) (h (((98 + 5 * s0) + 1) + 1)) 0 0 4)) 148 s0 a2) 149 s0 (N (Int.toNat ((15 + (11 * a3)) + 0)))) 150 s0 (farF (N (Int.toNat ((15 + (11 * a3)) + 0))) (N (Int.toNat ((15 + (11 * a3)) + 5))))) τ)
        refine a_icmp_eq (tgt := 1668) dL_law_1469 (by decide) (fun c1469_17 => ?_) (fun c1469_17 => ?_)
        · exfalso
          omega
        · refine a_iconst dL_law_1472 ⟨by decide, by decide⟩ ?_
          exact a_zret dL_law_1473 rfl (by first | exact Or.inl rfl | exact Or.inr rfl | omega) (by exfalso; omega)
      · exfalso
        omega
      · exfalso
        omega
      · exfalso
        omega
    · have t1_1_1 : 0 ≤ ((s0 : Nat) : Int) ∧ ((s0 : Nat) : Int) ≤ 4 := t1_1_1
      have t10_2_1 : 0 ≤ a2 ∧ a2 ≤ 3 := t10_2_1
      have c21_3_1 : a2 = 1 := c21_3_1
      have t29_13_1 : ¬ (0 ≤ a3 ∧ a3 < (N 5)) := t29_13_1
      show Aj γ mL_law d mc ms Post 1450 [(0, vK 0), (1, vA 0), (2, vA 123), (3, vI ((i : Nat) : Int))] [vI (-1000000001)] (mk h τ)
      refine a_aload_n (j := 2) dL_law_1450 rfl rfl (Nat.le_of_ble_eq_true rfl) ?_
      refine a_aload_n (j := 0) dL_law_1451 rfl rfl (Nat.le_of_ble_eq_true rfl) ?_
      refine a_iload_n (j := 3) dL_law_1452 rfl rfl ?_
      refine a_iconst dL_law_1453 ⟨by decide, by decide⟩ ?_
      refine a_iadd (z := (((i : Nat) : Int) + 1)) dL_law_1454 (w_ok (by omega) (by omega)) ?_
      refine a_sld (i + 1) dL_law_1455 (by omega) (by omega) ?_
      rw [ha1]
      refine a_aload_n (j := 0) dL_law_1456 rfl rfl (Nat.le_of_ble_eq_true rfl) ?_
      refine a_iload_n (j := 3) dL_law_1457 rfl rfl ?_
      refine a_iconst dL_law_1458 ⟨by decide, by decide⟩ ?_
      refine a_iadd (z := (((i : Nat) : Int) + 2)) dL_law_1459 (w_ok (by omega) (by omega)) ?_
      refine a_sld (i + 2) dL_law_1460 (by omega) (by omega) ?_
      rw [ha2]
      refine a_aload_n (j := 0) dL_law_1461 rfl rfl (Nat.le_of_ble_eq_true rfl) ?_
      refine a_iload_n (j := 3) dL_law_1462 rfl rfl ?_
      refine a_iconst dL_law_1463 ⟨by decide, by decide⟩ ?_
      refine a_iadd (z := (((i : Nat) : Int) + 3)) dL_law_1464 (w_ok (by omega) (by omega)) ?_
      refine a_sld (i + 3) dL_law_1465 (by omega) (by omega) ?_
      rw [ha3]
      refine b_callV (d' := d - 1) (mc' := 0) (ms' := 0) (mc1 := mc) (ms1 := ms) (st := [vI (-1000000001)]) (b := 123) [vI ((s0 : Nat) : Int), vI a2, vI a3] dL_law_1466 mwX9_lay lkL_175 (by decide) rfl rc_X9 rfl (Nat.le_of_ble_eq_true rfl) (by omega) (by omega) (by omega) (c_X9_lay (v1 := (N 5)) (v2 := (N (Int.toNat ((15 + (11 * a3)) + 5)))) (v3 := (h 148 s0)) (v4 := (h 145 (Int.toNat a3))) (v5 := (h 146 (Int.toNat a3))) (f6 := (h 147)) (f7 := (h 151)) (v8 := (N (Int.toNat ((15 + (11 * a3)) + 0)))) (by omega)  (congrFun hN _) (congrFun hN _) rfl rfl rfl rfl rfl (congrFun hN _) (show 0 ≤ (N 5) ∧ (N 5) ≤ 12 by omega) (show Im a3 (N 5) (0 ≤ (N (Int.toNat ((15 + (11 * a3)) + 5))) ∧ (N (Int.toNat ((15 + (11 * a3)) + 5))) ≤ 999) from fun _ _ => (by omega)) (fun t1_1_18 t10_2_18 c18_3_18 c31_4_18 c46_5_18 c84_7_18 c98_8_18 c119_9_18 c154_10_18 => ?_) (fun t1_1_18 t10_2_18 c18_3_18 c31_4_18 t35_11_18 c46_12_18 c55_14_18 c84_16_18 c98_17_18 c119_19_18 => ?_) (fun t1_1_18 t10_2_18 c18_3_18 c31_4_18 t35_11_18 c46_12_18 c55_14_18 => ?_) (fun t1_1_18 t10_2_18 c18_3_18 c31_4_18 t35_11_18 => ?_) (fun t1_1_18 t10_2_18 c18_3_18 t23_20_18 c31_21_18 c46_22_18 c84_24_18 c119_25_18 c154_26_18 => ?_) (fun t1_1_18 t10_2_18 c18_3_18 t23_20_18 => ?_) (fun t1_1_18 t10_2_18 => ?_) (fun t1_1_18 => ?_))
      · exfalso
        omega
      · exfalso
        omega
      · exfalso
        omega
      · exfalso
        omega
      · exfalso
        omega
      · have t1_1_18 : 0 ≤ ((s0 : Nat) : Int) ∧ ((s0 : Nat) : Int) ≤ 4 := t1_1_18
        have t10_2_18 : 0 ≤ a2 ∧ a2 ≤ 3 := t10_2_18
        have c18_3_18 : a2 = 1 := c18_3_18
        have t23_20_18 : ¬ (0 ≤ a3 ∧ a3 < (N 5)) := t23_20_18
        show Aj γ mL_law d mc ms Post 1469 [(0, vK 0), (1, vA 0), (2, vA 123), (3, vI ((i : Nat) : Int))] [vI (-1000000001), vI (-1000000001)] (mk h τ)
        refine a_icmp_eq (tgt := 1668) dL_law_1469 (by decide) (fun _ => ?_) (fun c => absurd c (by decide))
        exact kE h N J (IV_up (by omega) hI)
      · exfalso
        omega
      · exfalso
        omega
    · have t1_1_1 : 0 ≤ ((s0 : Nat) : Int) ∧ ((s0 : Nat) : Int) ≤ 4 := t1_1_1
      have t10_2_1 : ¬ (0 ≤ a2 ∧ a2 ≤ 3) := t10_2_1
      show Aj γ mL_law d mc ms Post 1450 [(0, vK 0), (1, vA 0), (2, vA 123), (3, vI ((i : Nat) : Int))] [vI (-1000000001)] (mk h τ)
      refine a_aload_n (j := 2) dL_law_1450 rfl rfl (Nat.le_of_ble_eq_true rfl) ?_
      refine a_aload_n (j := 0) dL_law_1451 rfl rfl (Nat.le_of_ble_eq_true rfl) ?_
      refine a_iload_n (j := 3) dL_law_1452 rfl rfl ?_
      refine a_iconst dL_law_1453 ⟨by decide, by decide⟩ ?_
      refine a_iadd (z := (((i : Nat) : Int) + 1)) dL_law_1454 (w_ok (by omega) (by omega)) ?_
      refine a_sld (i + 1) dL_law_1455 (by omega) (by omega) ?_
      rw [ha1]
      refine a_aload_n (j := 0) dL_law_1456 rfl rfl (Nat.le_of_ble_eq_true rfl) ?_
      refine a_iload_n (j := 3) dL_law_1457 rfl rfl ?_
      refine a_iconst dL_law_1458 ⟨by decide, by decide⟩ ?_
      refine a_iadd (z := (((i : Nat) : Int) + 2)) dL_law_1459 (w_ok (by omega) (by omega)) ?_
      refine a_sld (i + 2) dL_law_1460 (by omega) (by omega) ?_
      rw [ha2]
      refine a_aload_n (j := 0) dL_law_1461 rfl rfl (Nat.le_of_ble_eq_true rfl) ?_
      refine a_iload_n (j := 3) dL_law_1462 rfl rfl ?_
      refine a_iconst dL_law_1463 ⟨by decide, by decide⟩ ?_
      refine a_iadd (z := (((i : Nat) : Int) + 3)) dL_law_1464 (w_ok (by omega) (by omega)) ?_
      refine a_sld (i + 3) dL_law_1465 (by omega) (by omega) ?_
      rw [ha3]
      refine b_callV (d' := d - 1) (mc' := 0) (ms' := 0) (mc1 := mc) (ms1 := ms) (st := [vI (-1000000001)]) (b := 123) [vI ((s0 : Nat) : Int), vI a2, vI a3] dL_law_1466 mwX9_lay lkL_175 (by decide) rfl rc_X9 rfl (Nat.le_of_ble_eq_true rfl) (by omega) (by omega) (by omega) (c_X9_lay (v1 := (N 5)) (v2 := (N (Int.toNat ((15 + (11 * a3)) + 5)))) (v3 := (h 148 s0)) (v4 := (h 145 (Int.toNat a3))) (v5 := (h 146 (Int.toNat a3))) (f6 := (h 147)) (f7 := (h 151)) (v8 := (N (Int.toNat ((15 + (11 * a3)) + 0)))) (by omega)  (congrFun hN _) (congrFun hN _) rfl rfl rfl rfl rfl (congrFun hN _) (show 0 ≤ (N 5) ∧ (N 5) ≤ 12 by omega) (show Im a3 (N 5) (0 ≤ (N (Int.toNat ((15 + (11 * a3)) + 5))) ∧ (N (Int.toNat ((15 + (11 * a3)) + 5))) ≤ 999) from fun _ _ => (by omega)) (fun t1_1_20 t10_2_20 c18_3_20 c31_4_20 c46_5_20 c84_7_20 c98_8_20 c119_9_20 c154_10_20 => ?_) (fun t1_1_20 t10_2_20 c18_3_20 c31_4_20 t35_11_20 c46_12_20 c55_14_20 c84_16_20 c98_17_20 c119_19_20 => ?_) (fun t1_1_20 t10_2_20 c18_3_20 c31_4_20 t35_11_20 c46_12_20 c55_14_20 => ?_) (fun t1_1_20 t10_2_20 c18_3_20 c31_4_20 t35_11_20 => ?_) (fun t1_1_20 t10_2_20 c18_3_20 t23_20_20 c31_21_20 c46_22_20 c84_24_20 c119_25_20 c154_26_20 => ?_) (fun t1_1_20 t10_2_20 c18_3_20 t23_20_20 => ?_) (fun t1_1_20 t10_2_20 => ?_) (fun t1_1_20 => ?_))
      · exfalso
        omega
      · exfalso
        omega
      · exfalso
        omega
      · exfalso
        omega
      · exfalso
        omega
      · exfalso
        omega
      · have t1_1_20 : 0 ≤ ((s0 : Nat) : Int) ∧ ((s0 : Nat) : Int) ≤ 4 := t1_1_20
        have t10_2_20 : ¬ (0 ≤ a2 ∧ a2 ≤ 3) := t10_2_20
        show Aj γ mL_law d mc ms Post 1469 [(0, vK 0), (1, vA 0), (2, vA 123), (3, vI ((i : Nat) : Int))] [vI (-1000000001), vI (-1000000001)] (mk h τ)
        refine a_icmp_eq (tgt := 1668) dL_law_1469 (by decide) (fun _ => ?_) (fun c => absurd c (by decide))
        exact kE h N J (IV_up (by omega) hI)
      · exfalso
        omega
    · exfalso
      omega
