set_option maxHeartbeats 16000000 in
theorem s_pour {γ : GT} {d mc ms n i : Nat} {N J : Nat → Int} {h : Nat → Nat → Int} {τ : List AC} {Post : Option AV → List AC → Prop} (hd : 30 ≤ d) (hn : n < 64) (hi : i + 5 < g_L γ) (hL : g_L γ ≤ 384) (hI : IVp n h τ N J) (kE : ∀ h' N' J', IVp (n + 1) h' τ N' J' → Aj γ mL_law d mc ms Post 1668 [(0, vK 0), (1, vA 0), (2, vA 123), (3, vI ((i : Nat) : Int))] [] (mk h' τ)) : Aj γ mL_law d mc ms Post 1302 [(0, vK 0), (1, vA 0), (2, vA 123), (3, vI ((i : Nat) : Int))] [] (mk h τ) := by
  obtain ⟨hN, hJ, hX, hR, hk, hkK, hC, hRC, hst, hO⟩ := id hI
  have hsc := hX.1.1
  have hs1 := hsc.1
  have hs2 := hsc.2.1
  have hs3 := hsc.2.2.1
  have hs4 := hsc.2.2.2.1
  have hs5 := hsc.2.2.2.2
  have hs6 := hX.1.2.2.2.1
  have hx7 := hX.2.1
  have hx8 := hX.2.2.2.1
  obtain ⟨a1, ha1⟩ : ∃ z, (g_x γ (i + 1)).toInt = z := ⟨_, rfl⟩
  have ra1 : inI a1 := ha1 ▸ i32_rng _
  unfold inI at ra1
  obtain ⟨a2, ha2⟩ : ∃ z, (g_x γ (i + 2)).toInt = z := ⟨_, rfl⟩
  have ra2 : inI a2 := ha2 ▸ i32_rng _
  unfold inI at ra2
  rcases (show ¬ (0 ≤ a1 ∧ a1 ≤ 3) ∨ ((0 ≤ a1 ∧ a1 ≤ 3) ∧ ¬ (0 ≤ a2 ∧ a2 < N 5)) ∨ ((0 ≤ a1 ∧ a1 ≤ 3) ∧ (0 ≤ a2 ∧ a2 < N 5)) by omega) with hin | hin | hin
  · skip
    refine a_aload_n (j := 1) dL_law_1302 rfl rfl (Nat.le_of_ble_eq_true rfl) ?_
    refine a_aload_n (j := 0) dL_law_1303 rfl rfl (Nat.le_of_ble_eq_true rfl) ?_
    refine a_iload_n (j := 3) dL_law_1304 rfl rfl ?_
    refine a_iconst dL_law_1305 ⟨by decide, by decide⟩ ?_
    refine a_iadd (z := (((i : Nat) : Int) + 1)) dL_law_1306 (w_ok (by omega) (by omega)) ?_
    refine a_sld (i + 1) dL_law_1307 (by omega) (by omega) ?_
    rw [ha1]
    refine a_aload_n (j := 0) dL_law_1308 rfl rfl (Nat.le_of_ble_eq_true rfl) ?_
    refine a_iload_n (j := 3) dL_law_1309 rfl rfl ?_
    refine a_iconst dL_law_1310 ⟨by decide, by decide⟩ ?_
    refine a_iadd (z := (((i : Nat) : Int) + 2)) dL_law_1311 (w_ok (by omega) (by omega)) ?_
    refine a_sld (i + 2) dL_law_1312 (by omega) (by omega) ?_
    rw [ha2]
    refine b_callV (d' := d - 1) (mc' := 0) (ms' := 0) (mc1 := mc) (ms1 := ms) (st := []) (b := 0) [vI a1, vI a2] dL_law_1313 mwX8_pour lkL_159 (by decide) rfl rc_X8 rfl (Nat.le_of_ble_eq_true rfl) (by omega) (by omega) (by omega) (c_X8_pour (v1 := (N 5)) (v2 := (h 0 3)) (v3 := (h (90 + 2 * (Int.toNat a1)) 0)) (v4 := (h (90 + 2 * (Int.toNat a1)) 1)) (v5 := (h ((90 + 2 * (Int.toNat a1)) + 1) 0)) (v6 := (h ((90 + 2 * (Int.toNat a1)) + 1) 1)) (v7 := (h ((90 + 2 * (Int.toNat a1)) + 1) 2)) (by omega)  hR.1.2.1 rfl rfl rfl rfl rfl rfl (show 0 ≤ (N 5) ∧ (N 5) ≤ 12 by omega) (show 0 ≤ (h 0 3) ∧ (h 0 3) ≤ 1000 by omega) (fun t1_1_1 t12_2_1 c33_3_1 c45_4_1 c80_8_1 => ?_) (fun t1_1_1 t12_2_1 c33_3_1 c45_4_1 c80_8_1 c87_9_1 => ?_) (fun t1_1_1 t12_2_1 c33_3_1 c45_4_1 c80_8_1 c87_9_1 c94_10_1 t106_11_1 => ?_) (fun t1_1_1 t12_2_1 c33_3_1 c45_4_1 c80_8_1 c87_9_1 c94_10_1 t106_11_1 => ?_) (fun t1_1_1 t12_2_1 c33_3_1 c45_4_1 c80_8_1 c87_9_1 c94_10_1 => ?_) (fun t1_1_1 t12_2_1 c33_3_1 c45_4_1 => ?_) (fun t1_1_1 t12_2_1 c33_3_1 => ?_) (fun t1_1_1 t12_2_1 => ?_) (fun t1_1_1 => ?_))
    · exact absurd t1_1_1 hin
    · exact absurd t1_1_1 hin
    · exact absurd t1_1_1 hin
    · exact absurd t1_1_1 hin
    · exact absurd t1_1_1 hin
    · exact absurd t1_1_1 hin
    · exact absurd t1_1_1 hin
    · exact absurd t1_1_1 hin
    · have t1_1_1 : ¬ (0 ≤ a1 ∧ a1 ≤ 3) := t1_1_1
      show Aj γ mL_law d mc ms Post 1316 [(0, vK 0), (1, vA 0), (2, vA 123), (3, vI ((i : Nat) : Int))] [vI (-1000000001)] (mk h τ)
      refine a_aload_n (j := 2) dL_law_1316 rfl rfl (Nat.le_of_ble_eq_true rfl) ?_
      refine a_aload_n (j := 0) dL_law_1317 rfl rfl (Nat.le_of_ble_eq_true rfl) ?_
      refine a_iload_n (j := 3) dL_law_1318 rfl rfl ?_
      refine a_iconst dL_law_1319 ⟨by decide, by decide⟩ ?_
      refine a_iadd (z := (((i : Nat) : Int) + 1)) dL_law_1320 (w_ok (by omega) (by omega)) ?_
      refine a_sld (i + 1) dL_law_1321 (by omega) (by omega) ?_
      rw [ha1]
      refine a_aload_n (j := 0) dL_law_1322 rfl rfl (Nat.le_of_ble_eq_true rfl) ?_
      refine a_iload_n (j := 3) dL_law_1323 rfl rfl ?_
      refine a_iconst dL_law_1324 ⟨by decide, by decide⟩ ?_
      refine a_iadd (z := (((i : Nat) : Int) + 2)) dL_law_1325 (w_ok (by omega) (by omega)) ?_
      refine a_sld (i + 2) dL_law_1326 (by omega) (by omega) ?_
      rw [ha2]
      refine b_callV (d' := d - 1) (mc' := 0) (ms' := 0) (mc1 := mc) (ms1 := ms) (st := [vI (-1000000001)]) (b := 123) [vI a1, vI a2] dL_law_1327 mwX9_pour lkL_162 (by decide) rfl rc_X9 rfl (Nat.le_of_ble_eq_true rfl) (by omega) (by omega) (by omega) (c_X9_pour (v1 := (N 5)) (v2 := (h 145 (Int.toNat a1))) (v3 := (h 146 (Int.toNat a1))) (v4 := (h 147 (Int.toNat (24 * a1)))) (v5 := (h 147 (Int.toNat ((24 * a1) + 1)))) (v6 := (h 147 (Int.toNat ((24 * a1) + 2)))) (by omega)  (congrFun hN _) rfl rfl rfl rfl rfl (show 0 ≤ (N 5) ∧ (N 5) ≤ 12 by omega) (fun t1_1_3 t9_2_3 c24_4_3 c38_6_3 c84_10_3 => ?_) (fun t1_1_3 t9_2_3 c24_4_3 c38_6_3 c84_10_3 c91_11_3 => ?_) (fun t1_1_3 t9_2_3 c24_4_3 c38_6_3 c84_10_3 c91_11_3 c98_12_3 t109_13_3 => ?_) (fun t1_1_3 t9_2_3 c24_4_3 c38_6_3 c84_10_3 c91_11_3 c98_12_3 t109_13_3 => ?_) (fun t1_1_3 t9_2_3 c24_4_3 c38_6_3 c84_10_3 c91_11_3 c98_12_3 => ?_) (fun t1_1_3 t9_2_3 c24_4_3 c38_6_3 => ?_) (fun t1_1_3 t9_2_3 c24_4_3 => ?_) (fun t1_1_3 t9_2_3 => ?_) (fun t1_1_3 => ?_))
      · exact absurd t1_1_3 hin
      · exact absurd t1_1_3 hin
      · exact absurd t1_1_3 hin
      · exact absurd t1_1_3 hin
      · exact absurd t1_1_3 hin
      · exact absurd t1_1_3 hin
      · exact absurd t1_1_3 hin
      · exact absurd t1_1_3 hin
      · have t1_1_3 : ¬ (0 ≤ a1 ∧ a1 ≤ 3) := t1_1_3
        show Aj γ mL_law d mc ms Post 1330 [(0, vK 0), (1, vA 0), (2, vA 123), (3, vI ((i : Nat) : Int))] [vI (-1000000001), vI (-1000000001)] (mk h τ)
        refine a_icmp_eq (tgt := 1668) dL_law_1330 (by decide) (fun _ => ?_) (fun c => absurd c (by decide))
        exact kE h N J (IV_up (by omega) hI)
  · obtain ⟨hin0, hin⟩ := hin
    refine a_aload_n (j := 1) dL_law_1302 rfl rfl (Nat.le_of_ble_eq_true rfl) ?_
    refine a_aload_n (j := 0) dL_law_1303 rfl rfl (Nat.le_of_ble_eq_true rfl) ?_
    refine a_iload_n (j := 3) dL_law_1304 rfl rfl ?_
    refine a_iconst dL_law_1305 ⟨by decide, by decide⟩ ?_
    refine a_iadd (z := (((i : Nat) : Int) + 1)) dL_law_1306 (w_ok (by omega) (by omega)) ?_
    refine a_sld (i + 1) dL_law_1307 (by omega) (by omega) ?_
    rw [ha1]
    refine a_aload_n (j := 0) dL_law_1308 rfl rfl (Nat.le_of_ble_eq_true rfl) ?_
    refine a_iload_n (j := 3) dL_law_1309 rfl rfl ?_
    refine a_iconst dL_law_1310 ⟨by decide, by decide⟩ ?_
    refine a_iadd (z := (((i : Nat) : Int) + 2)) dL_law_1311 (w_ok (by omega) (by omega)) ?_
    refine a_sld (i + 2) dL_law_1312 (by omega) (by omega) ?_
    rw [ha2]
    refine b_callV (d' := d - 1) (mc' := 0) (ms' := 0) (mc1 := mc) (ms1 := ms) (st := []) (b := 0) [vI a1, vI a2] dL_law_1313 mwX8_pour lkL_159 (by decide) rfl rc_X8 rfl (Nat.le_of_ble_eq_true rfl) (by omega) (by omega) (by omega) (c_X8_pour (v1 := (N 5)) (v2 := (h 0 3)) (v3 := (h (90 + 2 * (Int.toNat a1)) 0)) (v4 := (h (90 + 2 * (Int.toNat a1)) 1)) (v5 := (h ((90 + 2 * (Int.toNat a1)) + 1) 0)) (v6 := (h ((90 + 2 * (Int.toNat a1)) + 1) 1)) (v7 := (h ((90 + 2 * (Int.toNat a1)) + 1) 2)) (by omega)  hR.1.2.1 rfl rfl rfl rfl rfl rfl (show 0 ≤ (N 5) ∧ (N 5) ≤ 12 by omega) (show 0 ≤ (h 0 3) ∧ (h 0 3) ≤ 1000 by omega) (fun t1_1_1 t12_2_1 c33_3_1 c45_4_1 c80_8_1 => ?_) (fun t1_1_1 t12_2_1 c33_3_1 c45_4_1 c80_8_1 c87_9_1 => ?_) (fun t1_1_1 t12_2_1 c33_3_1 c45_4_1 c80_8_1 c87_9_1 c94_10_1 t106_11_1 => ?_) (fun t1_1_1 t12_2_1 c33_3_1 c45_4_1 c80_8_1 c87_9_1 c94_10_1 t106_11_1 => ?_) (fun t1_1_1 t12_2_1 c33_3_1 c45_4_1 c80_8_1 c87_9_1 c94_10_1 => ?_) (fun t1_1_1 t12_2_1 c33_3_1 c45_4_1 => ?_) (fun t1_1_1 t12_2_1 c33_3_1 => ?_) (fun t1_1_1 t12_2_1 => ?_) (fun t1_1_1 => ?_))
    · exact absurd t12_2_1 hin
    · exact absurd t12_2_1 hin
    · exact absurd t12_2_1 hin
    · exact absurd t12_2_1 hin
    · exact absurd t12_2_1 hin
    · exact absurd t12_2_1 hin
    · exact absurd t12_2_1 hin
    · have t1_1_1 : 0 ≤ a1 ∧ a1 ≤ 3 := t1_1_1
      have t12_2_1 : ¬ (0 ≤ a2 ∧ a2 < (N 5)) := t12_2_1
      show Aj γ mL_law d mc ms Post 1316 [(0, vK 0), (1, vA 0), (2, vA 123), (3, vI ((i : Nat) : Int))] [vI (-1000000001)] (mk h τ)
      refine a_aload_n (j := 2) dL_law_1316 rfl rfl (Nat.le_of_ble_eq_true rfl) ?_
      refine a_aload_n (j := 0) dL_law_1317 rfl rfl (Nat.le_of_ble_eq_true rfl) ?_
      refine a_iload_n (j := 3) dL_law_1318 rfl rfl ?_
      refine a_iconst dL_law_1319 ⟨by decide, by decide⟩ ?_
      refine a_iadd (z := (((i : Nat) : Int) + 1)) dL_law_1320 (w_ok (by omega) (by omega)) ?_
      refine a_sld (i + 1) dL_law_1321 (by omega) (by omega) ?_
      rw [ha1]
      refine a_aload_n (j := 0) dL_law_1322 rfl rfl (Nat.le_of_ble_eq_true rfl) ?_
      refine a_iload_n (j := 3) dL_law_1323 rfl rfl ?_
      refine a_iconst dL_law_1324 ⟨by decide, by decide⟩ ?_
      refine a_iadd (z := (((i : Nat) : Int) + 2)) dL_law_1325 (w_ok (by omega) (by omega)) ?_
      refine a_sld (i + 2) dL_law_1326 (by omega) (by omega) ?_
      rw [ha2]
      refine b_callV (d' := d - 1) (mc' := 0) (ms' := 0) (mc1 := mc) (ms1 := ms) (st := [vI (-1000000001)]) (b := 123) [vI a1, vI a2] dL_law_1327 mwX9_pour lkL_162 (by decide) rfl rc_X9 rfl (Nat.le_of_ble_eq_true rfl) (by omega) (by omega) (by omega) (c_X9_pour (v1 := (N 5)) (v2 := (h 145 (Int.toNat a1))) (v3 := (h 146 (Int.toNat a1))) (v4 := (h 147 (Int.toNat (24 * a1)))) (v5 := (h 147 (Int.toNat ((24 * a1) + 1)))) (v6 := (h 147 (Int.toNat ((24 * a1) + 2)))) (by omega)  (congrFun hN _) rfl rfl rfl rfl rfl (show 0 ≤ (N 5) ∧ (N 5) ≤ 12 by omega) (fun t1_1_3 t9_2_3 c24_4_3 c38_6_3 c84_10_3 => ?_) (fun t1_1_3 t9_2_3 c24_4_3 c38_6_3 c84_10_3 c91_11_3 => ?_) (fun t1_1_3 t9_2_3 c24_4_3 c38_6_3 c84_10_3 c91_11_3 c98_12_3 t109_13_3 => ?_) (fun t1_1_3 t9_2_3 c24_4_3 c38_6_3 c84_10_3 c91_11_3 c98_12_3 t109_13_3 => ?_) (fun t1_1_3 t9_2_3 c24_4_3 c38_6_3 c84_10_3 c91_11_3 c98_12_3 => ?_) (fun t1_1_3 t9_2_3 c24_4_3 c38_6_3 => ?_) (fun t1_1_3 t9_2_3 c24_4_3 => ?_) (fun t1_1_3 t9_2_3 => ?_) (fun t1_1_3 => ?_))
      · exact absurd t9_2_3 hin
      · exact absurd t9_2_3 hin
      · exact absurd t9_2_3 hin
      · exact absurd t9_2_3 hin
      · exact absurd t9_2_3 hin
      · exact absurd t9_2_3 hin
      · exact absurd t9_2_3 hin
      · have t1_1_3 : 0 ≤ a1 ∧ a1 ≤ 3 := t1_1_3
        have t9_2_3 : ¬ (0 ≤ a2 ∧ a2 < (N 5)) := t9_2_3
        show Aj γ mL_law d mc ms Post 1330 [(0, vK 0), (1, vA 0), (2, vA 123), (3, vI ((i : Nat) : Int))] [vI (-1000000001), vI (-1000000001)] (mk h τ)
        refine a_icmp_eq (tgt := 1668) dL_law_1330 (by decide) (fun _ => ?_) (fun c => absurd c (by decide))
        exact kE h N J (IV_up (by omega) hI)
      · exact absurd hin0 t1_1_3
    · exact absurd hin0 t1_1_1
  · obtain ⟨hin0, hin⟩ := hin
    obtain ⟨s0, rfl⟩ : ∃ z : Nat, a1 = (z : Int) := ⟨Int.toNat a1, by omega⟩
    obtain ⟨k0, k1, k2, k3, k4⟩ := hO.2.1 s0 (by omega)
    obtain ⟨t0, rfl⟩ : ∃ z : Nat, a2 = (z : Int) := ⟨Int.toNat a2, by omega⟩
    have hb9 := hX.1.2.2.1 t0 (by omega)
    unfold trR at hb9
    refine a_aload_n (j := 1) dL_law_1302 rfl rfl (Nat.le_of_ble_eq_true rfl) ?_
    refine a_aload_n (j := 0) dL_law_1303 rfl rfl (Nat.le_of_ble_eq_true rfl) ?_
    refine a_iload_n (j := 3) dL_law_1304 rfl rfl ?_
    refine a_iconst dL_law_1305 ⟨by decide, by decide⟩ ?_
    refine a_iadd (z := (((i : Nat) : Int) + 1)) dL_law_1306 (w_ok (by omega) (by omega)) ?_
    refine a_sld (i + 1) dL_law_1307 (by omega) (by omega) ?_
    rw [ha1]
    refine a_aload_n (j := 0) dL_law_1308 rfl rfl (Nat.le_of_ble_eq_true rfl) ?_
    refine a_iload_n (j := 3) dL_law_1309 rfl rfl ?_
    refine a_iconst dL_law_1310 ⟨by decide, by decide⟩ ?_
    refine a_iadd (z := (((i : Nat) : Int) + 2)) dL_law_1311 (w_ok (by omega) (by omega)) ?_
    refine a_sld (i + 2) dL_law_1312 (by omega) (by omega) ?_
    rw [ha2]
    refine b_callV (d' := d - 1) (mc' := 0) (ms' := 0) (mc1 := mc) (ms1 := ms) (st := []) (b := 0) [vI ((s0 : Nat) : Int), vI ((t0 : Nat) : Int)] dL_law_1313 mwX8_pour lkL_159 (by decide) rfl rc_X8 rfl (Nat.le_of_ble_eq_true rfl) (by omega) (by omega) (by omega) (c_X8_pour (v1 := (N 5)) (v2 := (h 0 3)) (v3 := (h 145 s0)) (v4 := (h 146 s0)) (v5 := (h 147 (24 * s0))) (v6 := (h 147 (1 + 24 * s0))) (v7 := (h 147 (2 + 24 * s0))) (by omega)  hR.1.2.1 rfl k0 k1 (k4 0 (by decide)) ((k4 1 (by decide)).trans (congrArg (h 147) (show 24 * s0 + 1 = 1 + 24 * s0 by omega))) ((k4 2 (by decide)).trans (congrArg (h 147) (show 24 * s0 + 2 = 2 + 24 * s0 by omega))) (show 0 ≤ (N 5) ∧ (N 5) ≤ 12 by omega) (show 0 ≤ (h 0 3) ∧ (h 0 3) ≤ 1000 by omega) (fun t1_1_1 t12_2_1 c33_3_1 c45_4_1 c80_8_1 => ?_) (fun t1_1_1 t12_2_1 c33_3_1 c45_4_1 c80_8_1 c87_9_1 => ?_) (fun t1_1_1 t12_2_1 c33_3_1 c45_4_1 c80_8_1 c87_9_1 c94_10_1 t106_11_1 => ?_) (fun t1_1_1 t12_2_1 c33_3_1 c45_4_1 c80_8_1 c87_9_1 c94_10_1 t106_11_1 => ?_) (fun t1_1_1 t12_2_1 c33_3_1 c45_4_1 c80_8_1 c87_9_1 c94_10_1 => ?_) (fun t1_1_1 t12_2_1 c33_3_1 c45_4_1 => ?_) (fun t1_1_1 t12_2_1 c33_3_1 => ?_) (fun t1_1_1 t12_2_1 => ?_) (fun t1_1_1 => ?_))
    · have t1_1_1 : 0 ≤ ((s0 : Nat) : Int) ∧ ((s0 : Nat) : Int) ≤ 3 := t1_1_1
      have t12_2_1 : 0 ≤ ((t0 : Nat) : Int) ∧ ((t0 : Nat) : Int) < (N 5) := t12_2_1
      have c33_3_1 : ¬ (h 145 s0) = (-1) := c33_3_1
      have c45_4_1 : 3 ≤ (h 146 s0) := c45_4_1
      have c80_8_1 : (h 147 (24 * s0)) = (-1000000005) := c80_8_1
      show Aj γ mL_law d mc ms Post 1316 [(0, vK 0), (1, vA 0), (2, vA 123), (3, vI ((i : Nat) : Int))] [vI (-1000000012)] (mk h τ)
      refine a_aload_n (j := 2) dL_law_1316 rfl rfl (Nat.le_of_ble_eq_true rfl) ?_
      refine a_aload_n (j := 0) dL_law_1317 rfl rfl (Nat.le_of_ble_eq_true rfl) ?_
      refine a_iload_n (j := 3) dL_law_1318 rfl rfl ?_
      refine a_iconst dL_law_1319 ⟨by decide, by decide⟩ ?_
      refine a_iadd (z := (((i : Nat) : Int) + 1)) dL_law_1320 (w_ok (by omega) (by omega)) ?_
      refine a_sld (i + 1) dL_law_1321 (by omega) (by omega) ?_
      rw [ha1]
      refine a_aload_n (j := 0) dL_law_1322 rfl rfl (Nat.le_of_ble_eq_true rfl) ?_
      refine a_iload_n (j := 3) dL_law_1323 rfl rfl ?_
      refine a_iconst dL_law_1324 ⟨by decide, by decide⟩ ?_
      refine a_iadd (z := (((i : Nat) : Int) + 2)) dL_law_1325 (w_ok (by omega) (by omega)) ?_
      refine a_sld (i + 2) dL_law_1326 (by omega) (by omega) ?_
      rw [ha2]
      refine b_callV (d' := d - 1) (mc' := 0) (ms' := 0) (mc1 := mc) (ms1 := ms) (st := [vI (-1000000012)]) (b := 123) [vI ((s0 : Nat) : Int), vI ((t0 : Nat) : Int)] dL_law_1327 mwX9_pour lkL_162 (by decide) rfl rc_X9 rfl (Nat.le_of_ble_eq_true rfl) (by omega) (by omega) (by omega) (c_X9_pour (v1 := (N 5)) (v2 := (h 145 s0)) (v3 := (h 146 s0)) (v4 := (h 147 (24 * s0))) (v5 := (h 147 (1 + 24 * s0))) (v6 := (h 147 (2 + 24 * s0))) (by omega)  (congrFun hN _) rfl rfl (congrArg (h 147) (show (Int.toNat (24 * ((s0 : Nat) : Int))) = (24 * s0) by omega)) (congrArg (h 147) (show (Int.toNat ((24 * ((s0 : Nat) : Int)) + 1)) = (1 + 24 * s0) by omega)) (congrArg (h 147) (show (Int.toNat ((24 * ((s0 : Nat) : Int)) + 2)) = (2 + 24 * s0) by omega)) (show 0 ≤ (N 5) ∧ (N 5) ≤ 12 by omega) (fun t1_1_3 t9_2_3 c24_4_3 c38_6_3 c84_10_3 => ?_) (fun t1_1_3 t9_2_3 c24_4_3 c38_6_3 c84_10_3 c91_11_3 => ?_) (fun t1_1_3 t9_2_3 c24_4_3 c38_6_3 c84_10_3 c91_11_3 c98_12_3 t109_13_3 => ?_) (fun t1_1_3 t9_2_3 c24_4_3 c38_6_3 c84_10_3 c91_11_3 c98_12_3 t109_13_3 => ?_) (fun t1_1_3 t9_2_3 c24_4_3 c38_6_3 c84_10_3 c91_11_3 c98_12_3 => ?_) (fun t1_1_3 t9_2_3 c24_4_3 c38_6_3 => ?_) (fun t1_1_3 t9_2_3 c24_4_3 => ?_) (fun t1_1_3 t9_2_3 => ?_) (fun t1_1_3 => ?_))
      · have t1_1_3 : 0 ≤ ((s0 : Nat) : Int) ∧ ((s0 : Nat) : Int) ≤ 3 := t1_1_3
        have t9_2_3 : 0 ≤ ((t0 : Nat) : Int) ∧ ((t0 : Nat) : Int) < (N 5) := t9_2_3
        have c24_4_3 : 0 ≤ (h 145 s0) := c24_4_3
        have c38_6_3 : 3 ≤ (h 146 s0) := c38_6_3
        have c84_10_3 : (h 147 (24 * s0)) = (-1000000005) := c84_10_3
        show Aj γ mL_law d mc ms Post 1330 [(0, vK 0), (1, vA 0), (2, vA 123), (3, vI ((i : Nat) : Int))] [vI (-1000000012), vI (-1000000012)] (mk h τ)
        refine a_icmp_eq (tgt := 1668) dL_law_1330 (by decide) (fun _ => ?_) (fun c => absurd c (by decide))
        exact kE h N J (IV_up (by omega) hI)
      · exact absurd c80_8_1 c84_10_3
      · exact absurd c80_8_1 c84_10_3
      · exact absurd c80_8_1 c84_10_3
      · exact absurd c80_8_1 c84_10_3
      · exact absurd c45_4_1 c38_6_3
      · have t1_1_3 : 0 ≤ ((s0 : Nat) : Int) ∧ ((s0 : Nat) : Int) ≤ 3 := t1_1_3
        have t9_2_3 : 0 ≤ ((t0 : Nat) : Int) ∧ ((t0 : Nat) : Int) < (N 5) := t9_2_3
        have c24_4_3 : ¬ 0 ≤ (h 145 s0) := c24_4_3
        show Aj γ mL_law d mc ms Post 1330 [(0, vK 0), (1, vA 0), (2, vA 123), (3, vI ((i : Nat) : Int))] [vI (-1000000011), vI (-1000000012)] (mk h τ)
        refine a_icmp_eq (tgt := 1668) dL_law_1330 (by decide) (fun c => absurd c (by decide)) (fun _ => ?_)
        refine a_iconst dL_law_1333 ⟨by decide, by decide⟩ ?_
        exact a_zret dL_law_1334 rfl (by first | exact Or.inl rfl | exact Or.inr rfl | omega) (by exfalso; omega)
      · exact absurd hin t9_2_3
      · exact absurd hin0 t1_1_3
    · have t1_1_1 : 0 ≤ ((s0 : Nat) : Int) ∧ ((s0 : Nat) : Int) ≤ 3 := t1_1_1
      have t12_2_1 : 0 ≤ ((t0 : Nat) : Int) ∧ ((t0 : Nat) : Int) < (N 5) := t12_2_1
      have c33_3_1 : ¬ (h 145 s0) = (-1) := c33_3_1
      have c45_4_1 : 3 ≤ (h 146 s0) := c45_4_1
      have c80_8_1 : ¬ (h 147 (24 * s0)) = (-1000000005) := c80_8_1
      have c87_9_1 : (h 147 (1 + 24 * s0)) = (-1000000005) := c87_9_1
      show Aj γ mL_law d mc ms Post 1316 [(0, vK 0), (1, vA 0), (2, vA 123), (3, vI ((i : Nat) : Int))] [vI (-1000000012)] (mk h τ)
      refine a_aload_n (j := 2) dL_law_1316 rfl rfl (Nat.le_of_ble_eq_true rfl) ?_
      refine a_aload_n (j := 0) dL_law_1317 rfl rfl (Nat.le_of_ble_eq_true rfl) ?_
      refine a_iload_n (j := 3) dL_law_1318 rfl rfl ?_
      refine a_iconst dL_law_1319 ⟨by decide, by decide⟩ ?_
      refine a_iadd (z := (((i : Nat) : Int) + 1)) dL_law_1320 (w_ok (by omega) (by omega)) ?_
      refine a_sld (i + 1) dL_law_1321 (by omega) (by omega) ?_
      rw [ha1]
      refine a_aload_n (j := 0) dL_law_1322 rfl rfl (Nat.le_of_ble_eq_true rfl) ?_
      refine a_iload_n (j := 3) dL_law_1323 rfl rfl ?_
      refine a_iconst dL_law_1324 ⟨by decide, by decide⟩ ?_
      refine a_iadd (z := (((i : Nat) : Int) + 2)) dL_law_1325 (w_ok (by omega) (by omega)) ?_
      refine a_sld (i + 2) dL_law_1326 (by omega) (by omega) ?_
      rw [ha2]
      refine b_callV (d' := d - 1) (mc' := 0) (ms' := 0) (mc1 := mc) (ms1 := ms) (st := [vI (-1000000012)]) (b := 123) [vI ((s0 : Nat) : Int), vI ((t0 : Nat) : Int)] dL_law_1327 mwX9_pour lkL_162 (by decide) rfl rc_X9 rfl (Nat.le_of_ble_eq_true rfl) (by omega) (by omega) (by omega) (c_X9_pour (v1 := (N 5)) (v2 := (h 145 s0)) (v3 := (h 146 s0)) (v4 := (h 147 (24 * s0))) (v5 := (h 147 (1 + 24 * s0))) (v6 := (h 147 (2 + 24 * s0))) (by omega)  (congrFun hN _) rfl rfl (congrArg (h 147) (show (Int.toNat (24 * ((s0 : Nat) : Int))) = (24 * s0) by omega)) (congrArg (h 147) (show (Int.toNat ((24 * ((s0 : Nat) : Int)) + 1)) = (1 + 24 * s0) by omega)) (congrArg (h 147) (show (Int.toNat ((24 * ((s0 : Nat) : Int)) + 2)) = (2 + 24 * s0) by omega)) (show 0 ≤ (N 5) ∧ (N 5) ≤ 12 by omega) (fun t1_1_5 t9_2_5 c24_4_5 c38_6_5 c84_10_5 => ?_) (fun t1_1_5 t9_2_5 c24_4_5 c38_6_5 c84_10_5 c91_11_5 => ?_) (fun t1_1_5 t9_2_5 c24_4_5 c38_6_5 c84_10_5 c91_11_5 c98_12_5 t109_13_5 => ?_) (fun t1_1_5 t9_2_5 c24_4_5 c38_6_5 c84_10_5 c91_11_5 c98_12_5 t109_13_5 => ?_) (fun t1_1_5 t9_2_5 c24_4_5 c38_6_5 c84_10_5 c91_11_5 c98_12_5 => ?_) (fun t1_1_5 t9_2_5 c24_4_5 c38_6_5 => ?_) (fun t1_1_5 t9_2_5 c24_4_5 => ?_) (fun t1_1_5 t9_2_5 => ?_) (fun t1_1_5 => ?_))
      · exact absurd c84_10_5 c80_8_1
      · have t1_1_5 : 0 ≤ ((s0 : Nat) : Int) ∧ ((s0 : Nat) : Int) ≤ 3 := t1_1_5
        have t9_2_5 : 0 ≤ ((t0 : Nat) : Int) ∧ ((t0 : Nat) : Int) < (N 5) := t9_2_5
        have c24_4_5 : 0 ≤ (h 145 s0) := c24_4_5
        have c38_6_5 : 3 ≤ (h 146 s0) := c38_6_5
        have c84_10_5 : ¬ (h 147 (24 * s0)) = (-1000000005) := c84_10_5
        have c91_11_5 : (h 147 (1 + 24 * s0)) = (-1000000005) := c91_11_5
        show Aj γ mL_law d mc ms Post 1330 [(0, vK 0), (1, vA 0), (2, vA 123), (3, vI ((i : Nat) : Int))] [vI (-1000000012), vI (-1000000012)] (mk h τ)
        refine a_icmp_eq (tgt := 1668) dL_law_1330 (by decide) (fun _ => ?_) (fun c => absurd c (by decide))
        exact kE h N J (IV_up (by omega) hI)
      · exact absurd c87_9_1 c91_11_5
      · exact absurd c87_9_1 c91_11_5
      · exact absurd c87_9_1 c91_11_5
      · exact absurd c45_4_1 c38_6_5
      · have t1_1_5 : 0 ≤ ((s0 : Nat) : Int) ∧ ((s0 : Nat) : Int) ≤ 3 := t1_1_5
        have t9_2_5 : 0 ≤ ((t0 : Nat) : Int) ∧ ((t0 : Nat) : Int) < (N 5) := t9_2_5
        have c24_4_5 : ¬ 0 ≤ (h 145 s0) := c24_4_5
        show Aj γ mL_law d mc ms Post 1330 [(0, vK 0), (1, vA 0), (2, vA 123), (3, vI ((i : Nat) : Int))] [vI (-1000000011), vI (-1000000012)] (mk h τ)
        refine a_icmp_eq (tgt := 1668) dL_law_1330 (by decide) (fun c => absurd c (by decide)) (fun _ => ?_)
        refine a_iconst dL_law_1333 ⟨by decide, by decide⟩ ?_
        exact a_zret dL_law_1334 rfl (by first | exact Or.inl rfl | exact Or.inr rfl | omega) (by exfalso; omega)
      · exact absurd hin t9_2_5
      · exact absurd hin0 t1_1_5
    · have t1_1_1 : 0 ≤ ((s0 : Nat) : Int) ∧ ((s0 : Nat) : Int) ≤ 3 := t1_1_1
      have t12_2_1 : 0 ≤ ((t0 : Nat) : Int) ∧ ((t0 : Nat) : Int) < (N 5) := t12_2_1
      have c33_3_1 : ¬ (h 145 s0) = (-1) := c33_3_1
      have c45_4_1 : 3 ≤ (h 146 s0) := c45_4_1
      have c80_8_1 : ¬ (h 147 (24 * s0)) = (-1000000005) := c80_8_1
      have c87_9_1 : ¬ (h 147 (1 + 24 * s0)) = (-1000000005) := c87_9_1
      have c94_10_1 : ¬ (h 147 (2 + 24 * s0)) = (-1000000005) := c94_10_1
      have t106_11_1 : (0 ≤ (h 147 (24 * s0)) ∧ (h 147 (24 * s0)) ≤ 100) ∧ (0 ≤ (h 147 (1 + 24 * s0)) ∧ (h 147 (1 + 24 * s0)) ≤ 100) ∧ (0 ≤ (h 147 (2 + 24 * s0)) ∧ (h 147 (2 + 24 * s0)) ≤ 100) ∧ (h 147 (24 * s0)) + (h 147 (1 + 24 * s0)) + (h 147 (2 + 24 * s0)) ≤ 100 := t106_11_1
      show Aj γ mL_law d mc ms Post 1316 [(0, vK 0), (1, vA 0), (2, vA 123), (3, vI ((i : Nat) : Int))] [vI (100 - (h 147 (24 * s0)) - (h 147 (1 + 24 * s0)) - (h 147 (2 + 24 * s0)))] (mk (up2 (up2 (up2 (up2 (up2 (up2 h ((8 + 2 * t0) + 1) 0 (((100 - (h 147 (24 * s0))) - (h 147 (1 + 24 * s0))) - (h 147 (2 + 24 * s0)))) ((8 + 2 * t0) + 1) 1 (h 147 (24 * s0))) ((8 + 2 * t0) + 1) 2 (h 147 (1 + 24 * s0))) ((8 + 2 * t0) + 1) 3 (h 147 (2 + 24 * s0))) 0 3 ((h 0 3) + 1)) 1 0 ((h 0 3) + 1)) τ)
      refine a_aload_n (j := 2) dL_law_1316 rfl rfl (Nat.le_of_ble_eq_true rfl) ?_
      refine a_aload_n (j := 0) dL_law_1317 rfl rfl (Nat.le_of_ble_eq_true rfl) ?_
      refine a_iload_n (j := 3) dL_law_1318 rfl rfl ?_
      refine a_iconst dL_law_1319 ⟨by decide, by decide⟩ ?_
      refine a_iadd (z := (((i : Nat) : Int) + 1)) dL_law_1320 (w_ok (by omega) (by omega)) ?_
      refine a_sld (i + 1) dL_law_1321 (by omega) (by omega) ?_
      rw [ha1]
      refine a_aload_n (j := 0) dL_law_1322 rfl rfl (Nat.le_of_ble_eq_true rfl) ?_
      refine a_iload_n (j := 3) dL_law_1323 rfl rfl ?_
      refine a_iconst dL_law_1324 ⟨by decide, by decide⟩ ?_
      refine a_iadd (z := (((i : Nat) : Int) + 2)) dL_law_1325 (w_ok (by omega) (by omega)) ?_
      refine a_sld (i + 2) dL_law_1326 (by omega) (by omega) ?_
      rw [ha2]
      refine b_callV (d' := d - 1) (mc' := 0) (ms' := 0) (mc1 := mc) (ms1 := ms) (st := [vI (100 - (h 147 (24 * s0)) - (h 147 (1 + 24 * s0)) - (h 147 (2 + 24 * s0)))]) (b := 123) [vI ((s0 : Nat) : Int), vI ((t0 : Nat) : Int)] dL_law_1327 mwX9_pour lkL_162 (by decide) rfl rc_X9 rfl (Nat.le_of_ble_eq_true rfl) (by omega) (by omega) (by omega) (c_X9_pour (v1 := (N 5)) (v2 := (h 145 s0)) (v3 := (h 146 s0)) (v4 := (h 147 (24 * s0))) (v5 := (h 147 (1 + 24 * s0))) (v6 := (h 147 (2 + 24 * s0))) (by omega)  ((up2_ne (by omega)).trans ((up2_ne (by omega)).trans ((up2_ne (by omega)).trans ((up2_ne (by omega)).trans ((up2_ne (by omega)).trans ((up2_ne (by omega)).trans (congrFun hN _))))))) ((up2_ne (by omega)).trans ((up2_ne (by omega)).trans ((up2_ne (by omega)).trans ((up2_ne (by omega)).trans ((up2_ne (by omega)).trans ((up2_ne (by omega)).trans rfl)))))) ((up2_ne (by omega)).trans ((up2_ne (by omega)).trans ((up2_ne (by omega)).trans ((up2_ne (by omega)).trans ((up2_ne (by omega)).trans ((up2_ne (by omega)).trans rfl)))))) ((up2_ne (by omega)).trans ((up2_ne (by omega)).trans ((up2_ne (by omega)).trans ((up2_ne (by omega)).trans ((up2_ne (by omega)).trans ((up2_ne (by omega)).trans (congrArg (h 147) (show (Int.toNat (24 * ((s0 : Nat) : Int))) = (24 * s0) by omega)))))))) ((up2_ne (by omega)).trans ((up2_ne (by omega)).trans ((up2_ne (by omega)).trans ((up2_ne (by omega)).trans ((up2_ne (by omega)).trans ((up2_ne (by omega)).trans (congrArg (h 147) (show (Int.toNat ((24 * ((s0 : Nat) : Int)) + 1)) = (1 + 24 * s0) by omega)))))))) ((up2_ne (by omega)).trans ((up2_ne (by omega)).trans ((up2_ne (by omega)).trans ((up2_ne (by omega)).trans ((up2_ne (by omega)).trans ((up2_ne (by omega)).trans (congrArg (h 147) (show (Int.toNat ((24 * ((s0 : Nat) : Int)) + 2)) = (2 + 24 * s0) by omega)))))))) (show 0 ≤ (N 5) ∧ (N 5) ≤ 12 by omega) (fun t1_1_7 t9_2_7 c24_4_7 c38_6_7 c84_10_7 => ?_) (fun t1_1_7 t9_2_7 c24_4_7 c38_6_7 c84_10_7 c91_11_7 => ?_) (fun t1_1_7 t9_2_7 c24_4_7 c38_6_7 c84_10_7 c91_11_7 c98_12_7 t109_13_7 => ?_) (fun t1_1_7 t9_2_7 c24_4_7 c38_6_7 c84_10_7 c91_11_7 c98_12_7 t109_13_7 => ?_) (fun t1_1_7 t9_2_7 c24_4_7 c38_6_7 c84_10_7 c91_11_7 c98_12_7 => ?_) (fun t1_1_7 t9_2_7 c24_4_7 c38_6_7 => ?_) (fun t1_1_7 t9_2_7 c24_4_7 => ?_) (fun t1_1_7 t9_2_7 => ?_) (fun t1_1_7 => ?_))
      · exact absurd c84_10_7 c80_8_1
      · exact absurd c91_11_7 c87_9_1
      · have t1_1_7 : 0 ≤ ((s0 : Nat) : Int) ∧ ((s0 : Nat) : Int) ≤ 3 := t1_1_7
        have t9_2_7 : 0 ≤ ((t0 : Nat) : Int) ∧ ((t0 : Nat) : Int) < (N 5) := t9_2_7
        have c24_4_7 : 0 ≤ (h 145 s0) := c24_4_7
        have c38_6_7 : 3 ≤ (h 146 s0) := c38_6_7
        have c84_10_7 : ¬ (h 147 (24 * s0)) = (-1000000005) := c84_10_7
        have c91_11_7 : ¬ (h 147 (1 + 24 * s0)) = (-1000000005) := c91_11_7
        have c98_12_7 : ¬ (h 147 (2 + 24 * s0)) = (-1000000005) := c98_12_7
        have t109_13_7 : (0 ≤ (h 147 (24 * s0)) ∧ (h 147 (24 * s0)) ≤ 100) ∧ (0 ≤ (h 147 (1 + 24 * s0)) ∧ (h 147 (1 + 24 * s0)) ≤ 100) ∧ (0 ≤ (h 147 (2 + 24 * s0)) ∧ (h 147 (2 + 24 * s0)) ≤ 100) ∧ (h 147 (24 * s0)) + (h 147 (1 + 24 * s0)) + (h 147 (2 + 24 * s0)) ≤ 100 := t109_13_7
        show Aj γ mL_law d mc ms Post 1330 [(0, vK 0), (1, vA 0), (2, vA 123), (3, vI ((i : Nat) : Int))] [vI (100 - (h 147 (24 * s0)) - (h 147 (1 + 24 * s0)) - (h 147 (2 + 24 * s0))), vI (100 - (h 147 (24 * s0)) - (h 147 (1 + 24 * s0)) - (h 147 (2 + 24 * s0)))] (mk (up2 (up2 (up2 (up2 (up2 (up2 (up2 (up2 (up2 (up2 (up2 h ((8 + 2 * t0) + 1) 0 (((100 - (h 147 (24 * s0))) - (h 147 (1 + 24 * s0))) - (h 147 (2 + 24 * s0)))) ((8 + 2 * t0) + 1) 1 (h 147 (24 * s0))) ((8 + 2 * t0) + 1) 2 (h 147 (1 + 24 * s0))) ((8 + 2 * t0) + 1) 3 (h 147 (2 + 24 * s0))) 0 3 ((h 0 3) + 1)) 1 0 ((h 0 3) + 1)) 124 (Int.toNat ((15 + (11 * ((t0 : Nat) : Int))) + 7)) (((100 - (h 147 (24 * s0))) - (h 147 (1 + 24 * s0))) - (h 147 (2 + 24 * s0)))) 124 (Int.toNat (((15 + (11 * ((t0 : Nat) : Int))) + 7) + 1)) (h 147 (24 * s0))) 124 (Int.toNat (((15 + (11 * ((t0 : Nat) : Int))) + 7) + 2)) (h 147 (1 + 24 * s0))) 124 (Int.toNat (((15 + (11 * ((t0 : Nat) : Int))) + 7) + 3)) (h 147 (2 + 24 * s0))) 123 4 0) τ)
        refine a_icmp_eq (tgt := 1668) dL_law_1330 (by decide) (fun c1330_9 => ?_) (fun c1330_9 => ?_)
        · generalize hHH : (up2 (up2 (up2 (up2 (up2 (up2 (up2 (up2 (up2 (up2 (up2 h ((8 + 2 * t0) + 1) 0 (((100 - (h 147 (24 * s0))) - (h 147 (1 + 24 * s0))) - (h 147 (2 + 24 * s0)))) ((8 + 2 * t0) + 1) 1 (h 147 (24 * s0))) ((8 + 2 * t0) + 1) 2 (h 147 (1 + 24 * s0))) ((8 + 2 * t0) + 1) 3 (h 147 (2 + 24 * s0))) 0 3 ((h 0 3) + 1)) 1 0 ((h 0 3) + 1)) 124 (Int.toNat ((15 + (11 * ((t0 : Nat) : Int))) + 7)) (((100 - (h 147 (24 * s0))) - (h 147 (1 + 24 * s0))) - (h 147 (2 + 24 * s0)))) 124 (Int.toNat (((15 + (11 * ((t0 : Nat) : Int))) + 7) + 1)) (h 147 (24 * s0))) 124 (Int.toNat (((15 + (11 * ((t0 : Nat) : Int))) + 7) + 2)) (h 147 (1 + 24 * s0))) 124 (Int.toNat (((15 + (11 * ((t0 : Nat) : Int))) + 7) + 3)) (h 147 (2 + 24 * s0))) 123 4 0) = H
          have c0_ : H (8 + 2 * t0) 0 = h (8 + 2 * t0) 0 := by rw [← hHH]; exact ((up2_ne (by omega)).trans ((up2_ne (by omega)).trans ((up2_ne (by omega)).trans ((up2_ne (by omega)).trans ((up2_ne (by omega)).trans ((up2_ne (by omega)).trans ((up2_ne (by omega)).trans ((up2_ne (by omega)).trans ((up2_ne (by omega)).trans ((up2_ne (by omega)).trans ((up2_ne (by omega)).trans rfl)))))))))))
          have f15_ : H 124 (15 + 11 * t0) = N (15 + 11 * t0) := by rw [← hHH]; exact ((up2_ne (by omega)).trans ((up2_ne (by omega)).trans ((up2_ne (by omega)).trans ((up2_ne (by omega)).trans ((up2_ne (by omega)).trans ((up2_ne (by omega)).trans ((up2_ne (by omega)).trans ((up2_ne (by omega)).trans ((up2_ne (by omega)).trans ((up2_ne (by omega)).trans ((up2_ne (by omega)).trans (congrFun hN _))))))))))))
          have c1_ : H (8 + 2 * t0) 1 = h (8 + 2 * t0) 1 := by rw [← hHH]; exact ((up2_ne (by omega)).trans ((up2_ne (by omega)).trans ((up2_ne (by omega)).trans ((up2_ne (by omega)).trans ((up2_ne (by omega)).trans ((up2_ne (by omega)).trans ((up2_ne (by omega)).trans ((up2_ne (by omega)).trans ((up2_ne (by omega)).trans ((up2_ne (by omega)).trans ((up2_ne (by omega)).trans rfl)))))))))))
          have f16_ : H 124 (16 + 11 * t0) = N (16 + 11 * t0) := by rw [← hHH]; exact ((up2_ne (by omega)).trans ((up2_ne (by omega)).trans ((up2_ne (by omega)).trans ((up2_ne (by omega)).trans ((up2_ne (by omega)).trans ((up2_ne (by omega)).trans ((up2_ne (by omega)).trans ((up2_ne (by omega)).trans ((up2_ne (by omega)).trans ((up2_ne (by omega)).trans ((up2_ne (by omega)).trans (congrFun hN _))))))))))))
          have c2_ : H (8 + 2 * t0) 2 = h (8 + 2 * t0) 2 := by rw [← hHH]; exact ((up2_ne (by omega)).trans ((up2_ne (by omega)).trans ((up2_ne (by omega)).trans ((up2_ne (by omega)).trans ((up2_ne (by omega)).trans ((up2_ne (by omega)).trans ((up2_ne (by omega)).trans ((up2_ne (by omega)).trans ((up2_ne (by omega)).trans ((up2_ne (by omega)).trans ((up2_ne (by omega)).trans rfl)))))))))))
          have f17_ : H 124 (17 + 11 * t0) = N (17 + 11 * t0) := by rw [← hHH]; exact ((up2_ne (by omega)).trans ((up2_ne (by omega)).trans ((up2_ne (by omega)).trans ((up2_ne (by omega)).trans ((up2_ne (by omega)).trans ((up2_ne (by omega)).trans ((up2_ne (by omega)).trans ((up2_ne (by omega)).trans ((up2_ne (by omega)).trans ((up2_ne (by omega)).trans ((up2_ne (by omega)).trans (congrFun hN _))))))))))))
          have c3_ : H (8 + 2 * t0) 3 = h (8 + 2 * t0) 3 := by rw [← hHH]; exact ((up2_ne (by omega)).trans ((up2_ne (by omega)).trans ((up2_ne (by omega)).trans ((up2_ne (by omega)).trans ((up2_ne (by omega)).trans ((up2_ne (by omega)).trans ((up2_ne (by omega)).trans ((up2_ne (by omega)).trans ((up2_ne (by omega)).trans ((up2_ne (by omega)).trans ((up2_ne (by omega)).trans rfl)))))))))))
          have f18_ : H 124 (18 + 11 * t0) = N (18 + 11 * t0) := by rw [← hHH]; exact ((up2_ne (by omega)).trans ((up2_ne (by omega)).trans ((up2_ne (by omega)).trans ((up2_ne (by omega)).trans ((up2_ne (by omega)).trans ((up2_ne (by omega)).trans ((up2_ne (by omega)).trans ((up2_ne (by omega)).trans ((up2_ne (by omega)).trans ((up2_ne (by omega)).trans ((up2_ne (by omega)).trans (congrFun hN _))))))))))))
          have c4_ : H (8 + 2 * t0) 4 = h (8 + 2 * t0) 4 := by rw [← hHH]; exact ((up2_ne (by omega)).trans ((up2_ne (by omega)).trans ((up2_ne (by omega)).trans ((up2_ne (by omega)).trans ((up2_ne (by omega)).trans ((up2_ne (by omega)).trans ((up2_ne (by omega)).trans ((up2_ne (by omega)).trans ((up2_ne (by omega)).trans ((up2_ne (by omega)).trans ((up2_ne (by omega)).trans rfl)))))))))))
          have f19_ : H 124 (19 + 11 * t0) = N (19 + 11 * t0) := by rw [← hHH]; exact ((up2_ne (by omega)).trans ((up2_ne (by omega)).trans ((up2_ne (by omega)).trans ((up2_ne (by omega)).trans ((up2_ne (by omega)).trans ((up2_ne (by omega)).trans ((up2_ne (by omega)).trans ((up2_ne (by omega)).trans ((up2_ne (by omega)).trans ((up2_ne (by omega)).trans ((up2_ne (by omega)).trans (congrFun hN _))))))))))))
          have c5_ : H (8 + 2 * t0) 5 = h (8 + 2 * t0) 5 := by rw [← hHH]; exact ((up2_ne (by omega)).trans ((up2_ne (by omega)).trans ((up2_ne (by omega)).trans ((up2_ne (by omega)).trans ((up2_ne (by omega)).trans ((up2_ne (by omega)).trans ((up2_ne (by omega)).trans ((up2_ne (by omega)).trans ((up2_ne (by omega)).trans ((up2_ne (by omega)).trans ((up2_ne (by omega)).trans rfl)))))))))))
          have f20_ : H 124 (20 + 11 * t0) = N (20 + 11 * t0) := by rw [← hHH]; exact ((up2_ne (by omega)).trans ((up2_ne (by omega)).trans ((up2_ne (by omega)).trans ((up2_ne (by omega)).trans ((up2_ne (by omega)).trans ((up2_ne (by omega)).trans ((up2_ne (by omega)).trans ((up2_ne (by omega)).trans ((up2_ne (by omega)).trans ((up2_ne (by omega)).trans ((up2_ne (by omega)).trans (congrFun hN _))))))))))))
          have c6_ : H (8 + 2 * t0) 6 = h (8 + 2 * t0) 6 := by rw [← hHH]; exact ((up2_ne (by omega)).trans ((up2_ne (by omega)).trans ((up2_ne (by omega)).trans ((up2_ne (by omega)).trans ((up2_ne (by omega)).trans ((up2_ne (by omega)).trans ((up2_ne (by omega)).trans ((up2_ne (by omega)).trans ((up2_ne (by omega)).trans ((up2_ne (by omega)).trans ((up2_ne (by omega)).trans rfl)))))))))))
          have f21_ : H 124 (21 + 11 * t0) = N (21 + 11 * t0) := by rw [← hHH]; exact ((up2_ne (by omega)).trans ((up2_ne (by omega)).trans ((up2_ne (by omega)).trans ((up2_ne (by omega)).trans ((up2_ne (by omega)).trans ((up2_ne (by omega)).trans ((up2_ne (by omega)).trans ((up2_ne (by omega)).trans ((up2_ne (by omega)).trans ((up2_ne (by omega)).trans ((up2_ne (by omega)).trans (congrFun hN _))))))))))))
          have f4_ : H 124 4 = N 4 := by rw [← hHH]; exact ((up2_ne (by omega)).trans ((up2_ne (by omega)).trans ((up2_ne (by omega)).trans ((up2_ne (by omega)).trans ((up2_ne (by omega)).trans ((up2_ne (by omega)).trans ((up2_ne (by omega)).trans ((up2_ne (by omega)).trans ((up2_ne (by omega)).trans ((up2_ne (by omega)).trans ((up2_ne (by omega)).trans (congrFun hN _))))))))))))
          have e0_ : H ((8 + 2 * t0) + 1) 0 = (((100 - (h 147 (24 * s0))) - (h 147 (1 + 24 * s0))) - (h 147 (2 + 24 * s0))) := by rw [← hHH]; exact ((up2_ne (by omega)).trans ((up2_ne (by omega)).trans ((up2_ne (by omega)).trans ((up2_ne (by omega)).trans ((up2_ne (by omega)).trans ((up2_ne (by omega)).trans ((up2_ne (by omega)).trans ((up2_ne (by omega)).trans ((up2_ne (by omega)).trans ((up2_ne (by omega)).trans (up2_hit (by omega) (by omega))))))))))))
          have g0_ : H 124 (22 + 11 * t0 + 0) = (((100 - (h 147 (24 * s0))) - (h 147 (1 + 24 * s0))) - (h 147 (2 + 24 * s0))) := by rw [← hHH]; exact ((up2_ne (by omega)).trans ((up2_ne (by omega)).trans ((up2_ne (by omega)).trans ((up2_ne (by omega)).trans (up2_hit (by omega) (by omega))))))
          have e1_ : H ((8 + 2 * t0) + 1) 1 = (h 147 (24 * s0)) := by rw [← hHH]; exact ((up2_ne (by omega)).trans ((up2_ne (by omega)).trans ((up2_ne (by omega)).trans ((up2_ne (by omega)).trans ((up2_ne (by omega)).trans ((up2_ne (by omega)).trans ((up2_ne (by omega)).trans ((up2_ne (by omega)).trans ((up2_ne (by omega)).trans (up2_hit (by omega) (by omega)))))))))))
          have g1_ : H 124 (22 + 11 * t0 + 1) = (h 147 (24 * s0)) := by rw [← hHH]; exact ((up2_ne (by omega)).trans ((up2_ne (by omega)).trans ((up2_ne (by omega)).trans (up2_hit (by omega) (by omega)))))
          have e2_ : H ((8 + 2 * t0) + 1) 2 = (h 147 (1 + 24 * s0)) := by rw [← hHH]; exact ((up2_ne (by omega)).trans ((up2_ne (by omega)).trans ((up2_ne (by omega)).trans ((up2_ne (by omega)).trans ((up2_ne (by omega)).trans ((up2_ne (by omega)).trans ((up2_ne (by omega)).trans ((up2_ne (by omega)).trans (up2_hit (by omega) (by omega))))))))))
          have g2_ : H 124 (22 + 11 * t0 + 2) = (h 147 (1 + 24 * s0)) := by rw [← hHH]; exact ((up2_ne (by omega)).trans ((up2_ne (by omega)).trans (up2_hit (by omega) (by omega))))
          have e3_ : H ((8 + 2 * t0) + 1) 3 = (h 147 (2 + 24 * s0)) := by rw [← hHH]; exact ((up2_ne (by omega)).trans ((up2_ne (by omega)).trans ((up2_ne (by omega)).trans ((up2_ne (by omega)).trans ((up2_ne (by omega)).trans ((up2_ne (by omega)).trans ((up2_ne (by omega)).trans (up2_hit (by omega) (by omega)))))))))
          have g3_ : H 124 (22 + 11 * t0 + 3) = (h 147 (2 + 24 * s0)) := by rw [← hHH]; exact ((up2_ne (by omega)).trans (up2_hit (by omega) (by omega)))
          have f22_ : H 124 (22 + 11 * t0) = (((100 - (h 147 (24 * s0))) - (h 147 (1 + 24 * s0))) - (h 147 (2 + 24 * s0))) := by rw [← hHH]; exact ((up2_ne (by omega)).trans ((up2_ne (by omega)).trans ((up2_ne (by omega)).trans ((up2_ne (by omega)).trans (up2_hit (by omega) (by omega))))))
          have hb0 := hX.1.2.2.1 t0 (by omega)
          unfold trR at hb0
          have hw0 := hR.2.2.1 t0 (by omega)
          unfold trW at hw0
          have hr : trR (H 124) t0 := by unfold trR; rw [f4_, f15_, f16_, f17_, f18_, f19_, f20_, f21_, f22_, g1_, g2_, g3_]; omega
          have hw : trW H (8 + 2 * t0) (H 124) t0 := ⟨c0_.trans (hw0.1.trans f15_.symm), c1_.trans (hw0.2.1.trans f16_.symm), c2_.trans (hw0.2.2.1.trans f17_.symm), c3_.trans (hw0.2.2.2.1.trans f18_.symm), c4_.trans (hw0.2.2.2.2.1.trans f19_.symm), c5_.trans (hw0.2.2.2.2.2.1.trans f20_.symm), c6_.trans (hw0.2.2.2.2.2.2.1.trans (congrArg hsF f21_.symm)), fun s hs => by
            rcases (show s = 0 ∨ s = 1 ∨ s = 2 ∨ s = 3 by omega) with rfl | rfl | rfl | rfl
            · (rw [show H (8 + 2 * t0 + 1) 0 = _ from e0_, g0_] <;> first | rfl | omega)
            · (rw [show H (8 + 2 * t0 + 1) 1 = _ from e1_, g1_] <;> first | rfl | omega)
            · (rw [show H (8 + 2 * t0 + 1) 2 = _ from e2_, g2_] <;> first | rfl | omega)
            · (rw [show H (8 + 2 * t0 + 1) 3 = _ from e3_, g3_] <;> first | rfl | omega)⟩
          have a1_ : ∀ k : Nat, k ≠ 0 → H 1 k = h 1 k := fun k q0_ => by rw [← hHH]; exact ((up2_ne (by omega)).trans ((up2_ne (by omega)).trans ((up2_ne (by omega)).trans ((up2_ne (by omega)).trans ((up2_ne (by omega)).trans ((up2_ne (by omega)).trans ((up2_ne (by omega)).trans ((up2_ne (by omega)).trans ((up2_ne (by omega)).trans ((up2_ne (by omega)).trans ((up2_ne (by omega)).trans rfl)))))))))))
          have a5_ : ∀ c, 2 ≤ c → c < 32 → c ≠ 8 + 2 * t0 → c ≠ 8 + 2 * t0 + 1 → H c = h c := fun c q0_ q1_ q2_ q3_ => by rw [← hHH]; exact ((up2_row (by omega)).trans ((up2_row (by omega)).trans ((up2_row (by omega)).trans ((up2_row (by omega)).trans ((up2_row (by omega)).trans ((up2_row (by omega)).trans ((up2_row (by omega)).trans ((up2_row (by omega)).trans ((up2_row (by omega)).trans ((up2_row (by omega)).trans ((up2_row (by omega)).trans rfl)))))))))))
          have n3_ : ∀ k : Nat, (k < 15 + 11 * t0 ∨ 15 + 11 * t0 + 11 ≤ k) → H 124 k = N k := fun k q0_ => by rw [← hHH]; exact ((up2_ne (by omega)).trans ((up2_ne (by omega)).trans ((up2_ne (by omega)).trans ((up2_ne (by omega)).trans ((up2_ne (by omega)).trans ((up2_ne (by omega)).trans ((up2_ne (by omega)).trans ((up2_ne (by omega)).trans ((up2_ne (by omega)).trans ((up2_ne (by omega)).trans ((up2_ne (by omega)).trans (congrFun hN _))))))))))))
          have hW := W_tr (h := h) (h' := H) (t0 := t0) hX hR (by omega) a1_ a5_ n3_ hr hw
          have gF : ∀ c, ¬ inW c → H c = h c := fun c q0_ => by unfold inW at q0_; rw [← hHH]; exact ((up2_row (by omega)).trans ((up2_row (by omega)).trans ((up2_row (by omega)).trans ((up2_row (by omega)).trans ((up2_row (by omega)).trans ((up2_row (by omega)).trans ((up2_row (by omega)).trans ((up2_row (by omega)).trans ((up2_row (by omega)).trans ((up2_row (by omega)).trans ((up2_row (by omega)).trans rfl)))))))))))
          have g0 : ∀ k : Nat, k ≠ 3 → H 0 k = h 0 k := fun k q0_ => by rw [← hHH]; exact ((up2_ne (by omega)).trans ((up2_ne (by omega)).trans ((up2_ne (by omega)).trans ((up2_ne (by omega)).trans ((up2_ne (by omega)).trans ((up2_ne (by omega)).trans ((up2_ne (by omega)).trans ((up2_ne (by omega)).trans ((up2_ne (by omega)).trans ((up2_ne (by omega)).trans ((up2_ne (by omega)).trans rfl)))))))))))
          have e03 : H 0 3 = ((h 0 3) + 1) := by rw [← hHH]; exact ((up2_ne (by omega)).trans ((up2_ne (by omega)).trans ((up2_ne (by omega)).trans ((up2_ne (by omega)).trans ((up2_ne (by omega)).trans ((up2_ne (by omega)).trans (up2_hit (by omega) (by omega))))))))
          have e10 : H 1 0 = ((h 0 3) + 1) := by rw [← hHH]; exact ((up2_ne (by omega)).trans ((up2_ne (by omega)).trans ((up2_ne (by omega)).trans ((up2_ne (by omega)).trans ((up2_ne (by omega)).trans (up2_hit (by omega) (by omega)))))))
          have g3 : ∀ k : Nat, k ≠ 4 → H 123 k = h 123 k := fun k q0_ => by rw [← hHH]; exact ((up2_ne (by omega)).trans ((up2_ne (by omega)).trans ((up2_ne (by omega)).trans ((up2_ne (by omega)).trans ((up2_ne (by omega)).trans ((up2_ne (by omega)).trans ((up2_ne (by omega)).trans ((up2_ne (by omega)).trans ((up2_ne (by omega)).trans ((up2_ne (by omega)).trans ((up2_ne (by omega)).trans rfl)))))))))))
          have e4 : H 123 4 = 0 := by rw [← hHH]; exact (up2_hit (by omega) (by omega))
          exact kE H (H 124) J (IV_s hI gF g0 e03 e10 g3 e4 rfl hW.1 hW.2)
        · refine a_iconst dL_law_1333 ⟨by decide, by decide⟩ ?_
          exact a_zret dL_law_1334 rfl (by first | exact Or.inl rfl | exact Or.inr rfl | omega) (absurd rfl c1330_9)
      · exact absurd t106_11_1 t109_13_7
      · exact absurd c98_12_7 c94_10_1
      · exact absurd c45_4_1 c38_6_7
      · have t1_1_7 : 0 ≤ ((s0 : Nat) : Int) ∧ ((s0 : Nat) : Int) ≤ 3 := t1_1_7
        have t9_2_7 : 0 ≤ ((t0 : Nat) : Int) ∧ ((t0 : Nat) : Int) < (N 5) := t9_2_7
        have c24_4_7 : ¬ 0 ≤ (h 145 s0) := c24_4_7
        show Aj γ mL_law d mc ms Post 1330 [(0, vK 0), (1, vA 0), (2, vA 123), (3, vI ((i : Nat) : Int))] [vI (-1000000011), vI (100 - (h 147 (24 * s0)) - (h 147 (1 + 24 * s0)) - (h 147 (2 + 24 * s0)))] (mk (up2 (up2 (up2 (up2 (up2 (up2 h ((8 + 2 * t0) + 1) 0 (((100 - (h 147 (24 * s0))) - (h 147 (1 + 24 * s0))) - (h 147 (2 + 24 * s0)))) ((8 + 2 * t0) + 1) 1 (h 147 (24 * s0))) ((8 + 2 * t0) + 1) 2 (h 147 (1 + 24 * s0))) ((8 + 2 * t0) + 1) 3 (h 147 (2 + 24 * s0))) 0 3 ((h 0 3) + 1)) 1 0 ((h 0 3) + 1)) τ)
        refine a_icmp_eq (tgt := 1668) dL_law_1330 (by decide) (fun c1330_10 => ?_) (fun c1330_10 => ?_)
        · exfalso
          omega
        · refine a_iconst dL_law_1333 ⟨by decide, by decide⟩ ?_
          exact a_zret dL_law_1334 rfl (by first | exact Or.inl rfl | exact Or.inr rfl | omega) (by exfalso; omega)
      · exact absurd hin t9_2_7
      · exact absurd hin0 t1_1_7
    · have t1_1_1 : 0 ≤ ((s0 : Nat) : Int) ∧ ((s0 : Nat) : Int) ≤ 3 := t1_1_1
      have t12_2_1 : 0 ≤ ((t0 : Nat) : Int) ∧ ((t0 : Nat) : Int) < (N 5) := t12_2_1
      have c33_3_1 : ¬ (h 145 s0) = (-1) := c33_3_1
      have c45_4_1 : 3 ≤ (h 146 s0) := c45_4_1
      have c80_8_1 : ¬ (h 147 (24 * s0)) = (-1000000005) := c80_8_1
      have c87_9_1 : ¬ (h 147 (1 + 24 * s0)) = (-1000000005) := c87_9_1
      have c94_10_1 : ¬ (h 147 (2 + 24 * s0)) = (-1000000005) := c94_10_1
      have t106_11_1 : ¬ ((0 ≤ (h 147 (24 * s0)) ∧ (h 147 (24 * s0)) ≤ 100) ∧ (0 ≤ (h 147 (1 + 24 * s0)) ∧ (h 147 (1 + 24 * s0)) ≤ 100) ∧ (0 ≤ (h 147 (2 + 24 * s0)) ∧ (h 147 (2 + 24 * s0)) ≤ 100) ∧ (h 147 (24 * s0)) + (h 147 (1 + 24 * s0)) + (h 147 (2 + 24 * s0)) ≤ 100) := t106_11_1
      show Aj γ mL_law d mc ms Post 1316 [(0, vK 0), (1, vA 0), (2, vA 123), (3, vI ((i : Nat) : Int))] [vI (-1000000001)] (mk h τ)
      refine a_aload_n (j := 2) dL_law_1316 rfl rfl (Nat.le_of_ble_eq_true rfl) ?_
      refine a_aload_n (j := 0) dL_law_1317 rfl rfl (Nat.le_of_ble_eq_true rfl) ?_
      refine a_iload_n (j := 3) dL_law_1318 rfl rfl ?_
      refine a_iconst dL_law_1319 ⟨by decide, by decide⟩ ?_
      refine a_iadd (z := (((i : Nat) : Int) + 1)) dL_law_1320 (w_ok (by omega) (by omega)) ?_
      refine a_sld (i + 1) dL_law_1321 (by omega) (by omega) ?_
      rw [ha1]
      refine a_aload_n (j := 0) dL_law_1322 rfl rfl (Nat.le_of_ble_eq_true rfl) ?_
      refine a_iload_n (j := 3) dL_law_1323 rfl rfl ?_
      refine a_iconst dL_law_1324 ⟨by decide, by decide⟩ ?_
      refine a_iadd (z := (((i : Nat) : Int) + 2)) dL_law_1325 (w_ok (by omega) (by omega)) ?_
      refine a_sld (i + 2) dL_law_1326 (by omega) (by omega) ?_
      rw [ha2]
      refine b_callV (d' := d - 1) (mc' := 0) (ms' := 0) (mc1 := mc) (ms1 := ms) (st := [vI (-1000000001)]) (b := 123) [vI ((s0 : Nat) : Int), vI ((t0 : Nat) : Int)] dL_law_1327 mwX9_pour lkL_162 (by decide) rfl rc_X9 rfl (Nat.le_of_ble_eq_true rfl) (by omega) (by omega) (by omega) (c_X9_pour (v1 := (N 5)) (v2 := (h 145 s0)) (v3 := (h 146 s0)) (v4 := (h 147 (24 * s0))) (v5 := (h 147 (1 + 24 * s0))) (v6 := (h 147 (2 + 24 * s0))) (by omega)  (congrFun hN _) rfl rfl (congrArg (h 147) (show (Int.toNat (24 * ((s0 : Nat) : Int))) = (24 * s0) by omega)) (congrArg (h 147) (show (Int.toNat ((24 * ((s0 : Nat) : Int)) + 1)) = (1 + 24 * s0) by omega)) (congrArg (h 147) (show (Int.toNat ((24 * ((s0 : Nat) : Int)) + 2)) = (2 + 24 * s0) by omega)) (show 0 ≤ (N 5) ∧ (N 5) ≤ 12 by omega) (fun t1_1_11 t9_2_11 c24_4_11 c38_6_11 c84_10_11 => ?_) (fun t1_1_11 t9_2_11 c24_4_11 c38_6_11 c84_10_11 c91_11_11 => ?_) (fun t1_1_11 t9_2_11 c24_4_11 c38_6_11 c84_10_11 c91_11_11 c98_12_11 t109_13_11 => ?_) (fun t1_1_11 t9_2_11 c24_4_11 c38_6_11 c84_10_11 c91_11_11 c98_12_11 t109_13_11 => ?_) (fun t1_1_11 t9_2_11 c24_4_11 c38_6_11 c84_10_11 c91_11_11 c98_12_11 => ?_) (fun t1_1_11 t9_2_11 c24_4_11 c38_6_11 => ?_) (fun t1_1_11 t9_2_11 c24_4_11 => ?_) (fun t1_1_11 t9_2_11 => ?_) (fun t1_1_11 => ?_))
      · exact absurd c84_10_11 c80_8_1
      · exact absurd c91_11_11 c87_9_1
      · exact absurd t109_13_11 t106_11_1
      · have t1_1_11 : 0 ≤ ((s0 : Nat) : Int) ∧ ((s0 : Nat) : Int) ≤ 3 := t1_1_11
        have t9_2_11 : 0 ≤ ((t0 : Nat) : Int) ∧ ((t0 : Nat) : Int) < (N 5) := t9_2_11
        have c24_4_11 : 0 ≤ (h 145 s0) := c24_4_11
        have c38_6_11 : 3 ≤ (h 146 s0) := c38_6_11
        have c84_10_11 : ¬ (h 147 (24 * s0)) = (-1000000005) := c84_10_11
        have c91_11_11 : ¬ (h 147 (1 + 24 * s0)) = (-1000000005) := c91_11_11
        have c98_12_11 : ¬ (h 147 (2 + 24 * s0)) = (-1000000005) := c98_12_11
        have t109_13_11 : ¬ ((0 ≤ (h 147 (24 * s0)) ∧ (h 147 (24 * s0)) ≤ 100) ∧ (0 ≤ (h 147 (1 + 24 * s0)) ∧ (h 147 (1 + 24 * s0)) ≤ 100) ∧ (0 ≤ (h 147 (2 + 24 * s0)) ∧ (h 147 (2 + 24 * s0)) ≤ 100) ∧ (h 147 (24 * s0)) + (h 147 (1 + 24 * s0)) + (h 147 (2 + 24 * s0)) ≤ 100) := t109_13_11
        show Aj γ mL_law d mc ms Post 1330 [(0, vK 0), (1, vA 0), (2, vA 123), (3, vI ((i : Nat) : Int))] [vI (-1000000001), vI (-1000000001)] (mk h τ)
        refine a_icmp_eq (tgt := 1668) dL_law_1330 (by decide) (fun _ => ?_) (fun c => absurd c (by decide))
        exact kE h N J (IV_up (by omega) hI)
      · exact absurd c98_12_11 c94_10_1
      · exact absurd c45_4_1 c38_6_11
      · have t1_1_11 : 0 ≤ ((s0 : Nat) : Int) ∧ ((s0 : Nat) : Int) ≤ 3 := t1_1_11
        have t9_2_11 : 0 ≤ ((t0 : Nat) : Int) ∧ ((t0 : Nat) : Int) < (N 5) := t9_2_11
        have c24_4_11 : ¬ 0 ≤ (h 145 s0) := c24_4_11
        show Aj γ mL_law d mc ms Post 1330 [(0, vK 0), (1, vA 0), (2, vA 123), (3, vI ((i : Nat) : Int))] [vI (-1000000011), vI (-1000000001)] (mk h τ)
        refine a_icmp_eq (tgt := 1668) dL_law_1330 (by decide) (fun c => absurd c (by decide)) (fun _ => ?_)
        refine a_iconst dL_law_1333 ⟨by decide, by decide⟩ ?_
        exact a_zret dL_law_1334 rfl (by first | exact Or.inl rfl | exact Or.inr rfl | omega) (by exfalso; omega)
      · exact absurd hin t9_2_11
      · exact absurd hin0 t1_1_11
    · have t1_1_1 : 0 ≤ ((s0 : Nat) : Int) ∧ ((s0 : Nat) : Int) ≤ 3 := t1_1_1
      have t12_2_1 : 0 ≤ ((t0 : Nat) : Int) ∧ ((t0 : Nat) : Int) < (N 5) := t12_2_1
      have c33_3_1 : ¬ (h 145 s0) = (-1) := c33_3_1
      have c45_4_1 : 3 ≤ (h 146 s0) := c45_4_1
      have c80_8_1 : ¬ (h 147 (24 * s0)) = (-1000000005) := c80_8_1
      have c87_9_1 : ¬ (h 147 (1 + 24 * s0)) = (-1000000005) := c87_9_1
      have c94_10_1 : (h 147 (2 + 24 * s0)) = (-1000000005) := c94_10_1
      show Aj γ mL_law d mc ms Post 1316 [(0, vK 0), (1, vA 0), (2, vA 123), (3, vI ((i : Nat) : Int))] [vI (-1000000012)] (mk h τ)
      refine a_aload_n (j := 2) dL_law_1316 rfl rfl (Nat.le_of_ble_eq_true rfl) ?_
      refine a_aload_n (j := 0) dL_law_1317 rfl rfl (Nat.le_of_ble_eq_true rfl) ?_
      refine a_iload_n (j := 3) dL_law_1318 rfl rfl ?_
      refine a_iconst dL_law_1319 ⟨by decide, by decide⟩ ?_
      refine a_iadd (z := (((i : Nat) : Int) + 1)) dL_law_1320 (w_ok (by omega) (by omega)) ?_
      refine a_sld (i + 1) dL_law_1321 (by omega) (by omega) ?_
      rw [ha1]
      refine a_aload_n (j := 0) dL_law_1322 rfl rfl (Nat.le_of_ble_eq_true rfl) ?_
      refine a_iload_n (j := 3) dL_law_1323 rfl rfl ?_
      refine a_iconst dL_law_1324 ⟨by decide, by decide⟩ ?_
      refine a_iadd (z := (((i : Nat) : Int) + 2)) dL_law_1325 (w_ok (by omega) (by omega)) ?_
      refine a_sld (i + 2) dL_law_1326 (by omega) (by omega) ?_
      rw [ha2]
      refine b_callV (d' := d - 1) (mc' := 0) (ms' := 0) (mc1 := mc) (ms1 := ms) (st := [vI (-1000000012)]) (b := 123) [vI ((s0 : Nat) : Int), vI ((t0 : Nat) : Int)] dL_law_1327 mwX9_pour lkL_162 (by decide) rfl rc_X9 rfl (Nat.le_of_ble_eq_true rfl) (by omega) (by omega) (by omega) (c_X9_pour (v1 := (N 5)) (v2 := (h 145 s0)) (v3 := (h 146 s0)) (v4 := (h 147 (24 * s0))) (v5 := (h 147 (1 + 24 * s0))) (v6 := (h 147 (2 + 24 * s0))) (by omega)  (congrFun hN _) rfl rfl (congrArg (h 147) (show (Int.toNat (24 * ((s0 : Nat) : Int))) = (24 * s0) by omega)) (congrArg (h 147) (show (Int.toNat ((24 * ((s0 : Nat) : Int)) + 1)) = (1 + 24 * s0) by omega)) (congrArg (h 147) (show (Int.toNat ((24 * ((s0 : Nat) : Int)) + 2)) = (2 + 24 * s0) by omega)) (show 0 ≤ (N 5) ∧ (N 5) ≤ 12 by omega) (fun t1_1_13 t9_2_13 c24_4_13 c38_6_13 c84_10_13 => ?_) (fun t1_1_13 t9_2_13 c24_4_13 c38_6_13 c84_10_13 c91_11_13 => ?_) (fun t1_1_13 t9_2_13 c24_4_13 c38_6_13 c84_10_13 c91_11_13 c98_12_13 t109_13_13 => ?_) (fun t1_1_13 t9_2_13 c24_4_13 c38_6_13 c84_10_13 c91_11_13 c98_12_13 t109_13_13 => ?_) (fun t1_1_13 t9_2_13 c24_4_13 c38_6_13 c84_10_13 c91_11_13 c98_12_13 => ?_) (fun t1_1_13 t9_2_13 c24_4_13 c38_6_13 => ?_) (fun t1_1_13 t9_2_13 c24_4_13 => ?_) (fun t1_1_13 t9_2_13 => ?_) (fun t1_1_13 => ?_))
      · exact absurd c84_10_13 c80_8_1
      · exact absurd c91_11_13 c87_9_1
      · exact absurd c94_10_1 c98_12_13
      · exact absurd c94_10_1 c98_12_13
      · have t1_1_13 : 0 ≤ ((s0 : Nat) : Int) ∧ ((s0 : Nat) : Int) ≤ 3 := t1_1_13
        have t9_2_13 : 0 ≤ ((t0 : Nat) : Int) ∧ ((t0 : Nat) : Int) < (N 5) := t9_2_13
        have c24_4_13 : 0 ≤ (h 145 s0) := c24_4_13
        have c38_6_13 : 3 ≤ (h 146 s0) := c38_6_13
        have c84_10_13 : ¬ (h 147 (24 * s0)) = (-1000000005) := c84_10_13
        have c91_11_13 : ¬ (h 147 (1 + 24 * s0)) = (-1000000005) := c91_11_13
        have c98_12_13 : (h 147 (2 + 24 * s0)) = (-1000000005) := c98_12_13
        show Aj γ mL_law d mc ms Post 1330 [(0, vK 0), (1, vA 0), (2, vA 123), (3, vI ((i : Nat) : Int))] [vI (-1000000012), vI (-1000000012)] (mk h τ)
        refine a_icmp_eq (tgt := 1668) dL_law_1330 (by decide) (fun _ => ?_) (fun c => absurd c (by decide))
        exact kE h N J (IV_up (by omega) hI)
      · exact absurd c45_4_1 c38_6_13
      · have t1_1_13 : 0 ≤ ((s0 : Nat) : Int) ∧ ((s0 : Nat) : Int) ≤ 3 := t1_1_13
        have t9_2_13 : 0 ≤ ((t0 : Nat) : Int) ∧ ((t0 : Nat) : Int) < (N 5) := t9_2_13
        have c24_4_13 : ¬ 0 ≤ (h 145 s0) := c24_4_13
        show Aj γ mL_law d mc ms Post 1330 [(0, vK 0), (1, vA 0), (2, vA 123), (3, vI ((i : Nat) : Int))] [vI (-1000000011), vI (-1000000012)] (mk h τ)
        refine a_icmp_eq (tgt := 1668) dL_law_1330 (by decide) (fun c => absurd c (by decide)) (fun _ => ?_)
        refine a_iconst dL_law_1333 ⟨by decide, by decide⟩ ?_
        exact a_zret dL_law_1334 rfl (by first | exact Or.inl rfl | exact Or.inr rfl | omega) (by exfalso; omega)
      · exact absurd hin t9_2_13
      · exact absurd hin0 t1_1_13
    · have t1_1_1 : 0 ≤ ((s0 : Nat) : Int) ∧ ((s0 : Nat) : Int) ≤ 3 := t1_1_1
      have t12_2_1 : 0 ≤ ((t0 : Nat) : Int) ∧ ((t0 : Nat) : Int) < (N 5) := t12_2_1
      have c33_3_1 : ¬ (h 145 s0) = (-1) := c33_3_1
      have c45_4_1 : ¬ 3 ≤ (h 146 s0) := c45_4_1
      show Aj γ mL_law d mc ms Post 1316 [(0, vK 0), (1, vA 0), (2, vA 123), (3, vI ((i : Nat) : Int))] [vI (-1000000013)] (mk h τ)
      refine a_aload_n (j := 2) dL_law_1316 rfl rfl (Nat.le_of_ble_eq_true rfl) ?_
      refine a_aload_n (j := 0) dL_law_1317 rfl rfl (Nat.le_of_ble_eq_true rfl) ?_
      refine a_iload_n (j := 3) dL_law_1318 rfl rfl ?_
      refine a_iconst dL_law_1319 ⟨by decide, by decide⟩ ?_
      refine a_iadd (z := (((i : Nat) : Int) + 1)) dL_law_1320 (w_ok (by omega) (by omega)) ?_
      refine a_sld (i + 1) dL_law_1321 (by omega) (by omega) ?_
      rw [ha1]
      refine a_aload_n (j := 0) dL_law_1322 rfl rfl (Nat.le_of_ble_eq_true rfl) ?_
      refine a_iload_n (j := 3) dL_law_1323 rfl rfl ?_
      refine a_iconst dL_law_1324 ⟨by decide, by decide⟩ ?_
      refine a_iadd (z := (((i : Nat) : Int) + 2)) dL_law_1325 (w_ok (by omega) (by omega)) ?_
      refine a_sld (i + 2) dL_law_1326 (by omega) (by omega) ?_
      rw [ha2]
      refine b_callV (d' := d - 1) (mc' := 0) (ms' := 0) (mc1 := mc) (ms1 := ms) (st := [vI (-1000000013)]) (b := 123) [vI ((s0 : Nat) : Int), vI ((t0 : Nat) : Int)] dL_law_1327 mwX9_pour lkL_162 (by decide) rfl rc_X9 rfl (Nat.le_of_ble_eq_true rfl) (by omega) (by omega) (by omega) (c_X9_pour (v1 := (N 5)) (v2 := (h 145 s0)) (v3 := (h 146 s0)) (v4 := (h 147 (24 * s0))) (v5 := (h 147 (1 + 24 * s0))) (v6 := (h 147 (2 + 24 * s0))) (by omega)  (congrFun hN _) rfl rfl (congrArg (h 147) (show (Int.toNat (24 * ((s0 : Nat) : Int))) = (24 * s0) by omega)) (congrArg (h 147) (show (Int.toNat ((24 * ((s0 : Nat) : Int)) + 1)) = (1 + 24 * s0) by omega)) (congrArg (h 147) (show (Int.toNat ((24 * ((s0 : Nat) : Int)) + 2)) = (2 + 24 * s0) by omega)) (show 0 ≤ (N 5) ∧ (N 5) ≤ 12 by omega) (fun t1_1_15 t9_2_15 c24_4_15 c38_6_15 c84_10_15 => ?_) (fun t1_1_15 t9_2_15 c24_4_15 c38_6_15 c84_10_15 c91_11_15 => ?_) (fun t1_1_15 t9_2_15 c24_4_15 c38_6_15 c84_10_15 c91_11_15 c98_12_15 t109_13_15 => ?_) (fun t1_1_15 t9_2_15 c24_4_15 c38_6_15 c84_10_15 c91_11_15 c98_12_15 t109_13_15 => ?_) (fun t1_1_15 t9_2_15 c24_4_15 c38_6_15 c84_10_15 c91_11_15 c98_12_15 => ?_) (fun t1_1_15 t9_2_15 c24_4_15 c38_6_15 => ?_) (fun t1_1_15 t9_2_15 c24_4_15 => ?_) (fun t1_1_15 t9_2_15 => ?_) (fun t1_1_15 => ?_))
      · exact absurd c38_6_15 c45_4_1
      · exact absurd c38_6_15 c45_4_1
      · exact absurd c38_6_15 c45_4_1
      · exact absurd c38_6_15 c45_4_1
      · exact absurd c38_6_15 c45_4_1
      · have t1_1_15 : 0 ≤ ((s0 : Nat) : Int) ∧ ((s0 : Nat) : Int) ≤ 3 := t1_1_15
        have t9_2_15 : 0 ≤ ((t0 : Nat) : Int) ∧ ((t0 : Nat) : Int) < (N 5) := t9_2_15
        have c24_4_15 : 0 ≤ (h 145 s0) := c24_4_15
        have c38_6_15 : ¬ 3 ≤ (h 146 s0) := c38_6_15
        show Aj γ mL_law d mc ms Post 1330 [(0, vK 0), (1, vA 0), (2, vA 123), (3, vI ((i : Nat) : Int))] [vI (-1000000013), vI (-1000000013)] (mk h τ)
        refine a_icmp_eq (tgt := 1668) dL_law_1330 (by decide) (fun _ => ?_) (fun c => absurd c (by decide))
        exact kE h N J (IV_up (by omega) hI)
      · have t1_1_15 : 0 ≤ ((s0 : Nat) : Int) ∧ ((s0 : Nat) : Int) ≤ 3 := t1_1_15
        have t9_2_15 : 0 ≤ ((t0 : Nat) : Int) ∧ ((t0 : Nat) : Int) < (N 5) := t9_2_15
        have c24_4_15 : ¬ 0 ≤ (h 145 s0) := c24_4_15
        show Aj γ mL_law d mc ms Post 1330 [(0, vK 0), (1, vA 0), (2, vA 123), (3, vI ((i : Nat) : Int))] [vI (-1000000011), vI (-1000000013)] (mk h τ)
        refine a_icmp_eq (tgt := 1668) dL_law_1330 (by decide) (fun c => absurd c (by decide)) (fun _ => ?_)
        refine a_iconst dL_law_1333 ⟨by decide, by decide⟩ ?_
        exact a_zret dL_law_1334 rfl (by first | exact Or.inl rfl | exact Or.inr rfl | omega) (by exfalso; omega)
      · exact absurd hin t9_2_15
      · exact absurd hin0 t1_1_15
    · have t1_1_1 : 0 ≤ ((s0 : Nat) : Int) ∧ ((s0 : Nat) : Int) ≤ 3 := t1_1_1
      have t12_2_1 : 0 ≤ ((t0 : Nat) : Int) ∧ ((t0 : Nat) : Int) < (N 5) := t12_2_1
      have c33_3_1 : (h 145 s0) = (-1) := c33_3_1
      show Aj γ mL_law d mc ms Post 1316 [(0, vK 0), (1, vA 0), (2, vA 123), (3, vI ((i : Nat) : Int))] [vI (-1000000011)] (mk h τ)
      refine a_aload_n (j := 2) dL_law_1316 rfl rfl (Nat.le_of_ble_eq_true rfl) ?_
      refine a_aload_n (j := 0) dL_law_1317 rfl rfl (Nat.le_of_ble_eq_true rfl) ?_
      refine a_iload_n (j := 3) dL_law_1318 rfl rfl ?_
      refine a_iconst dL_law_1319 ⟨by decide, by decide⟩ ?_
      refine a_iadd (z := (((i : Nat) : Int) + 1)) dL_law_1320 (w_ok (by omega) (by omega)) ?_
      refine a_sld (i + 1) dL_law_1321 (by omega) (by omega) ?_
      rw [ha1]
      refine a_aload_n (j := 0) dL_law_1322 rfl rfl (Nat.le_of_ble_eq_true rfl) ?_
      refine a_iload_n (j := 3) dL_law_1323 rfl rfl ?_
      refine a_iconst dL_law_1324 ⟨by decide, by decide⟩ ?_
      refine a_iadd (z := (((i : Nat) : Int) + 2)) dL_law_1325 (w_ok (by omega) (by omega)) ?_
      refine a_sld (i + 2) dL_law_1326 (by omega) (by omega) ?_
      rw [ha2]
      refine b_callV (d' := d - 1) (mc' := 0) (ms' := 0) (mc1 := mc) (ms1 := ms) (st := [vI (-1000000011)]) (b := 123) [vI ((s0 : Nat) : Int), vI ((t0 : Nat) : Int)] dL_law_1327 mwX9_pour lkL_162 (by decide) rfl rc_X9 rfl (Nat.le_of_ble_eq_true rfl) (by omega) (by omega) (by omega) (c_X9_pour (v1 := (N 5)) (v2 := (h 145 s0)) (v3 := (h 146 s0)) (v4 := (h 147 (24 * s0))) (v5 := (h 147 (1 + 24 * s0))) (v6 := (h 147 (2 + 24 * s0))) (by omega)  (congrFun hN _) rfl rfl (congrArg (h 147) (show (Int.toNat (24 * ((s0 : Nat) : Int))) = (24 * s0) by omega)) (congrArg (h 147) (show (Int.toNat ((24 * ((s0 : Nat) : Int)) + 1)) = (1 + 24 * s0) by omega)) (congrArg (h 147) (show (Int.toNat ((24 * ((s0 : Nat) : Int)) + 2)) = (2 + 24 * s0) by omega)) (show 0 ≤ (N 5) ∧ (N 5) ≤ 12 by omega) (fun t1_1_17 t9_2_17 c24_4_17 c38_6_17 c84_10_17 => ?_) (fun t1_1_17 t9_2_17 c24_4_17 c38_6_17 c84_10_17 c91_11_17 => ?_) (fun t1_1_17 t9_2_17 c24_4_17 c38_6_17 c84_10_17 c91_11_17 c98_12_17 t109_13_17 => ?_) (fun t1_1_17 t9_2_17 c24_4_17 c38_6_17 c84_10_17 c91_11_17 c98_12_17 t109_13_17 => ?_) (fun t1_1_17 t9_2_17 c24_4_17 c38_6_17 c84_10_17 c91_11_17 c98_12_17 => ?_) (fun t1_1_17 t9_2_17 c24_4_17 c38_6_17 => ?_) (fun t1_1_17 t9_2_17 c24_4_17 => ?_) (fun t1_1_17 t9_2_17 => ?_) (fun t1_1_17 => ?_))
      · have t1_1_17 : 0 ≤ ((s0 : Nat) : Int) ∧ ((s0 : Nat) : Int) ≤ 3 := t1_1_17
        have t9_2_17 : 0 ≤ ((t0 : Nat) : Int) ∧ ((t0 : Nat) : Int) < (N 5) := t9_2_17
        have c24_4_17 : 0 ≤ (h 145 s0) := c24_4_17
        have c38_6_17 : 3 ≤ (h 146 s0) := c38_6_17
        have c84_10_17 : (h 147 (24 * s0)) = (-1000000005) := c84_10_17
        show Aj γ mL_law d mc ms Post 1330 [(0, vK 0), (1, vA 0), (2, vA 123), (3, vI ((i : Nat) : Int))] [vI (-1000000012), vI (-1000000011)] (mk h τ)
        refine a_icmp_eq (tgt := 1668) dL_law_1330 (by decide) (fun c => absurd c (by decide)) (fun _ => ?_)
        refine a_iconst dL_law_1333 ⟨by decide, by decide⟩ ?_
        exact a_zret dL_law_1334 rfl (by first | exact Or.inl rfl | exact Or.inr rfl | omega) (by exfalso; omega)
      · have t1_1_17 : 0 ≤ ((s0 : Nat) : Int) ∧ ((s0 : Nat) : Int) ≤ 3 := t1_1_17
        have t9_2_17 : 0 ≤ ((t0 : Nat) : Int) ∧ ((t0 : Nat) : Int) < (N 5) := t9_2_17
        have c24_4_17 : 0 ≤ (h 145 s0) := c24_4_17
        have c38_6_17 : 3 ≤ (h 146 s0) := c38_6_17
        have c84_10_17 : ¬ (h 147 (24 * s0)) = (-1000000005) := c84_10_17
        have c91_11_17 : (h 147 (1 + 24 * s0)) = (-1000000005) := c91_11_17
        show Aj γ mL_law d mc ms Post 1330 [(0, vK 0), (1, vA 0), (2, vA 123), (3, vI ((i : Nat) : Int))] [vI (-1000000012), vI (-1000000011)] (mk h τ)
        refine a_icmp_eq (tgt := 1668) dL_law_1330 (by decide) (fun c => absurd c (by decide)) (fun _ => ?_)
        refine a_iconst dL_law_1333 ⟨by decide, by decide⟩ ?_
        exact a_zret dL_law_1334 rfl (by first | exact Or.inl rfl | exact Or.inr rfl | omega) (by exfalso; omega)
      · have t1_1_17 : 0 ≤ ((s0 : Nat) : Int) ∧ ((s0 : Nat) : Int) ≤ 3 := t1_1_17
        have t9_2_17 : 0 ≤ ((t0 : Nat) : Int) ∧ ((t0 : Nat) : Int) < (N 5) := t9_2_17
        have c24_4_17 : 0 ≤ (h 145 s0) := c24_4_17
        have c38_6_17 : 3 ≤ (h 146 s0) := c38_6_17
        have c84_10_17 : ¬ (h 147 (24 * s0)) = (-1000000005) := c84_10_17
        have c91_11_17 : ¬ (h 147 (1 + 24 * s0)) = (-1000000005) := c91_11_17
        have c98_12_17 : ¬ (h 147 (2 + 24 * s0)) = (-1000000005) := c98_12_17
        have t109_13_17 : (0 ≤ (h 147 (24 * s0)) ∧ (h 147 (24 * s0)) ≤ 100) ∧ (0 ≤ (h 147 (1 + 24 * s0)) ∧ (h 147 (1 + 24 * s0)) ≤ 100) ∧ (0 ≤ (h 147 (2 + 24 * s0)) ∧ (h 147 (2 + 24 * s0)) ≤ 100) ∧ (h 147 (24 * s0)) + (h 147 (1 + 24 * s0)) + (h 147 (2 + 24 * s0)) ≤ 100 := t109_13_17
        show Aj γ mL_law d mc ms Post 1330 [(0, vK 0), (1, vA 0), (2, vA 123), (3, vI ((i : Nat) : Int))] [vI (100 - (h 147 (24 * s0)) - (h 147 (1 + 24 * s0)) - (h 147 (2 + 24 * s0))), vI (-1000000011)] (mk (up2 (up2 (up2 (up2 (up2 h 124 (Int.toNat ((15 + (11 * ((t0 : Nat) : Int))) + 7)) (((100 - (h 147 (24 * s0))) - (h 147 (1 + 24 * s0))) - (h 147 (2 + 24 * s0)))) 124 (Int.toNat (((15 + (11 * ((t0 : Nat) : Int))) + 7) + 1)) (h 147 (24 * s0))) 124 (Int.toNat (((15 + (11 * ((t0 : Nat) : Int))) + 7) + 2)) (h 147 (1 + 24 * s0))) 124 (Int.toNat (((15 + (11 * ((t0 : Nat) : Int))) + 7) + 3)) (h 147 (2 + 24 * s0))) 123 4 0) τ)
        refine a_icmp_eq (tgt := 1668) dL_law_1330 (by decide) (fun c1330_19 => ?_) (fun c1330_19 => ?_)
        · exfalso
          omega
        · refine a_iconst dL_law_1333 ⟨by decide, by decide⟩ ?_
          exact a_zret dL_law_1334 rfl (by first | exact Or.inl rfl | exact Or.inr rfl | omega) (by exfalso; omega)
      · have t1_1_17 : 0 ≤ ((s0 : Nat) : Int) ∧ ((s0 : Nat) : Int) ≤ 3 := t1_1_17
        have t9_2_17 : 0 ≤ ((t0 : Nat) : Int) ∧ ((t0 : Nat) : Int) < (N 5) := t9_2_17
        have c24_4_17 : 0 ≤ (h 145 s0) := c24_4_17
        have c38_6_17 : 3 ≤ (h 146 s0) := c38_6_17
        have c84_10_17 : ¬ (h 147 (24 * s0)) = (-1000000005) := c84_10_17
        have c91_11_17 : ¬ (h 147 (1 + 24 * s0)) = (-1000000005) := c91_11_17
        have c98_12_17 : ¬ (h 147 (2 + 24 * s0)) = (-1000000005) := c98_12_17
        have t109_13_17 : ¬ ((0 ≤ (h 147 (24 * s0)) ∧ (h 147 (24 * s0)) ≤ 100) ∧ (0 ≤ (h 147 (1 + 24 * s0)) ∧ (h 147 (1 + 24 * s0)) ≤ 100) ∧ (0 ≤ (h 147 (2 + 24 * s0)) ∧ (h 147 (2 + 24 * s0)) ≤ 100) ∧ (h 147 (24 * s0)) + (h 147 (1 + 24 * s0)) + (h 147 (2 + 24 * s0)) ≤ 100) := t109_13_17
        show Aj γ mL_law d mc ms Post 1330 [(0, vK 0), (1, vA 0), (2, vA 123), (3, vI ((i : Nat) : Int))] [vI (-1000000001), vI (-1000000011)] (mk h τ)
        refine a_icmp_eq (tgt := 1668) dL_law_1330 (by decide) (fun c => absurd c (by decide)) (fun _ => ?_)
        refine a_iconst dL_law_1333 ⟨by decide, by decide⟩ ?_
        exact a_zret dL_law_1334 rfl (by first | exact Or.inl rfl | exact Or.inr rfl | omega) (by exfalso; omega)
      · have t1_1_17 : 0 ≤ ((s0 : Nat) : Int) ∧ ((s0 : Nat) : Int) ≤ 3 := t1_1_17
        have t9_2_17 : 0 ≤ ((t0 : Nat) : Int) ∧ ((t0 : Nat) : Int) < (N 5) := t9_2_17
        have c24_4_17 : 0 ≤ (h 145 s0) := c24_4_17
        have c38_6_17 : 3 ≤ (h 146 s0) := c38_6_17
        have c84_10_17 : ¬ (h 147 (24 * s0)) = (-1000000005) := c84_10_17
        have c91_11_17 : ¬ (h 147 (1 + 24 * s0)) = (-1000000005) := c91_11_17
        have c98_12_17 : (h 147 (2 + 24 * s0)) = (-1000000005) := c98_12_17
        show Aj γ mL_law d mc ms Post 1330 [(0, vK 0), (1, vA 0), (2, vA 123), (3, vI ((i : Nat) : Int))] [vI (-1000000012), vI (-1000000011)] (mk h τ)
        refine a_icmp_eq (tgt := 1668) dL_law_1330 (by decide) (fun c => absurd c (by decide)) (fun _ => ?_)
        refine a_iconst dL_law_1333 ⟨by decide, by decide⟩ ?_
        exact a_zret dL_law_1334 rfl (by first | exact Or.inl rfl | exact Or.inr rfl | omega) (by exfalso; omega)
      · have t1_1_17 : 0 ≤ ((s0 : Nat) : Int) ∧ ((s0 : Nat) : Int) ≤ 3 := t1_1_17
        have t9_2_17 : 0 ≤ ((t0 : Nat) : Int) ∧ ((t0 : Nat) : Int) < (N 5) := t9_2_17
        have c24_4_17 : 0 ≤ (h 145 s0) := c24_4_17
        have c38_6_17 : ¬ 3 ≤ (h 146 s0) := c38_6_17
        show Aj γ mL_law d mc ms Post 1330 [(0, vK 0), (1, vA 0), (2, vA 123), (3, vI ((i : Nat) : Int))] [vI (-1000000013), vI (-1000000011)] (mk h τ)
        refine a_icmp_eq (tgt := 1668) dL_law_1330 (by decide) (fun c => absurd c (by decide)) (fun _ => ?_)
        refine a_iconst dL_law_1333 ⟨by decide, by decide⟩ ?_
        exact a_zret dL_law_1334 rfl (by first | exact Or.inl rfl | exact Or.inr rfl | omega) (by exfalso; omega)
      · have t1_1_17 : 0 ≤ ((s0 : Nat) : Int) ∧ ((s0 : Nat) : Int) ≤ 3 := t1_1_17
        have t9_2_17 : 0 ≤ ((t0 : Nat) : Int) ∧ ((t0 : Nat) : Int) < (N 5) := t9_2_17
        have c24_4_17 : ¬ 0 ≤ (h 145 s0) := c24_4_17
        show Aj γ mL_law d mc ms Post 1330 [(0, vK 0), (1, vA 0), (2, vA 123), (3, vI ((i : Nat) : Int))] [vI (-1000000011), vI (-1000000011)] (mk h τ)
        refine a_icmp_eq (tgt := 1668) dL_law_1330 (by decide) (fun _ => ?_) (fun c => absurd c (by decide))
        exact kE h N J (IV_up (by omega) hI)
      · exact absurd hin t9_2_17
      · exact absurd hin0 t1_1_17
    · exact absurd hin t12_2_1
    · exact absurd hin0 t1_1_1
set_option maxHeartbeats 16000000 in
theorem s_reads {γ : GT} {d mc ms n i : Nat} {N J : Nat → Int} {h : Nat → Nat → Int} {τ : List AC} {Post : Option AV → List AC → Prop} (hd : 30 ≤ d) (hn : n < 64) (hi : i + 5 < g_L γ) (hL : g_L γ ≤ 384) (hI : IVp n h τ N J) (kE : ∀ h' N' J', IVp (n + 1) h' τ N' J' → Aj γ mL_law d mc ms Post 1668 [(0, vK 0), (1, vA 0), (2, vA 123), (3, vI ((i : Nat) : Int))] [] (mk h' τ)) : Aj γ mL_law d mc ms Post 1335 [(0, vK 0), (1, vA 0), (2, vA 123), (3, vI ((i : Nat) : Int))] [] (mk h τ) := by
  obtain ⟨hN, hJ, hX, hR, hk, hkK, hC, hRC, hst, hO⟩ := id hI
  have hsc := hX.1.1
  have hs1 := hsc.1
  have hs2 := hsc.2.1
  have hs3 := hsc.2.2.1
  have hs4 := hsc.2.2.2.1
  have hs5 := hsc.2.2.2.2
  have hs6 := hX.1.2.2.2.1
  have hx7 := hX.2.1
  have hx8 := hX.2.2.2.1
  obtain ⟨a1, ha1⟩ : ∃ z, (g_x γ (i + 1)).toInt = z := ⟨_, rfl⟩
  have ra1 : inI a1 := ha1 ▸ i32_rng _
  unfold inI at ra1
  obtain ⟨a2, ha2⟩ : ∃ z, (g_x γ (i + 2)).toInt = z := ⟨_, rfl⟩
  have ra2 : inI a2 := ha2 ▸ i32_rng _
  unfold inI at ra2
  refine a_aload_n (j := 1) dL_law_1335 rfl rfl (Nat.le_of_ble_eq_true rfl) ?_
  refine a_aload_n (j := 0) dL_law_1336 rfl rfl (Nat.le_of_ble_eq_true rfl) ?_
  refine a_iload_n (j := 3) dL_law_1337 rfl rfl ?_
  refine a_iconst dL_law_1338 ⟨by decide, by decide⟩ ?_
  refine a_iadd (z := (((i : Nat) : Int) + 1)) dL_law_1339 (w_ok (by omega) (by omega)) ?_
  refine a_sld (i + 1) dL_law_1340 (by omega) (by omega) ?_
  rw [ha1]
  refine a_aload_n (j := 0) dL_law_1341 rfl rfl (Nat.le_of_ble_eq_true rfl) ?_
  refine a_iload_n (j := 3) dL_law_1342 rfl rfl ?_
  refine a_iconst dL_law_1343 ⟨by decide, by decide⟩ ?_
  refine a_iadd (z := (((i : Nat) : Int) + 2)) dL_law_1344 (w_ok (by omega) (by omega)) ?_
  refine a_sld (i + 2) dL_law_1345 (by omega) (by omega) ?_
  rw [ha2]
  refine b_callV (d' := d - 1) (mc' := 0) (ms' := 0) (mc1 := mc) (ms1 := ms) (st := []) (b := 0) [vI a1, vI a2] dL_law_1346 mwX8_reads lkL_163 (by decide) rfl rc_X8 rfl (Nat.le_of_ble_eq_true rfl) (by omega) (by omega) (by omega) (q_X8_reads (N := N) (J := J) (so := h 145) (sz := h 146) (cl := fun s k => h 147 (24 * s + k)) (by omega) hR hX hC (fun s hs => ⟨(hO.2.1 s hs).1, (hO.2.1 s hs).2.1, (hO.2.1 s hs).2.2.2.2⟩) (fun s hs => ⟨(hO.2.1 s hs).2.2.1, (hO.2.1 s hs).2.2.2.1⟩) (fun h7 hF7 c7 => ?_))
  have I7 := IV_X hI hF7 c7
  obtain ⟨hN7, hJ7, _, hR7, hk7, hkK7, hC7, hRC7, hst7, hO7⟩ := id I7
  show Aj γ mL_law d mc ms Post 1349 [(0, vK 0), (1, vA 0), (2, vA 123), (3, vI ((i : Nat) : Int))] [vI (vReads N (h 145 (Int.toNat a1)) (h 146 (Int.toNat a1)) ((fun s k => h 147 (24 * s + k)) (Int.toNat a1)) a1 a2)] (mk h7 τ)
  refine a_aload_n (j := 2) dL_law_1349 rfl rfl (Nat.le_of_ble_eq_true rfl) ?_
  refine a_aload_n (j := 0) dL_law_1350 rfl rfl (Nat.le_of_ble_eq_true rfl) ?_
  refine a_iload_n (j := 3) dL_law_1351 rfl rfl ?_
  refine a_iconst dL_law_1352 ⟨by decide, by decide⟩ ?_
  refine a_iadd (z := (((i : Nat) : Int) + 1)) dL_law_1353 (w_ok (by omega) (by omega)) ?_
  refine a_sld (i + 1) dL_law_1354 (by omega) (by omega) ?_
  rw [ha1]
  refine a_aload_n (j := 0) dL_law_1355 rfl rfl (Nat.le_of_ble_eq_true rfl) ?_
  refine a_iload_n (j := 3) dL_law_1356 rfl rfl ?_
  refine a_iconst dL_law_1357 ⟨by decide, by decide⟩ ?_
  refine a_iadd (z := (((i : Nat) : Int) + 2)) dL_law_1358 (w_ok (by omega) (by omega)) ?_
  refine a_sld (i + 2) dL_law_1359 (by omega) (by omega) ?_
  rw [ha2]
  refine b_callV (d' := d - 1) (mc' := 0) (ms' := 0) (mc1 := mc) (ms1 := ms) (st := [vI (vReads N (h 145 (Int.toNat a1)) (h 146 (Int.toNat a1)) ((fun s k => h 147 (24 * s + k)) (Int.toNat a1)) a1 a2)]) (b := 123) [vI a1, vI a2] dL_law_1360 mwX9_reads lkL_166 (by decide) rfl rc_X9 rfl (Nat.le_of_ble_eq_true rfl) (by omega) (by omega) (by omega) (q_X9_reads (N := N) (so := h 145) (sz := h 146) (cl := fun s k => h 147 (24 * s + k)) (by omega) hN7 hX hRC7 (fun s hs => ⟨Fr_v hF7 (by decide), Fr_v hF7 (by decide), fun k hk => Fr_v hF7 (by decide)⟩) (fun s hs => ⟨(hO.2.1 s hs).2.2.1, (hO.2.1 s hs).2.2.2.1⟩) (fun h8 hF8 k8 c8 => ?_))
  have I8 := IV_R I7 hF8 k8 c8
  show Aj γ mL_law d mc ms Post 1363 [(0, vK 0), (1, vA 0), (2, vA 123), (3, vI ((i : Nat) : Int))] [vI (vReads N (h 145 (Int.toNat a1)) (h 146 (Int.toNat a1)) ((fun s k => h 147 (24 * s + k)) (Int.toNat a1)) a1 a2), vI (vReads N (h 145 (Int.toNat a1)) (h 146 (Int.toNat a1)) ((fun s k => h 147 (24 * s + k)) (Int.toNat a1)) a1 a2)] (mk h8 τ)
  refine a_icmp_eq (tgt := 1668) dL_law_1363 (by decide) (fun c1363_1 => ?_) (fun c1363_1 => ?_)
  · exact kE h8 N J (IV_up (by omega) I8)
  · refine a_iconst dL_law_1366 ⟨by decide, by decide⟩ ?_
    exact a_zret dL_law_1367 rfl (by first | exact Or.inl rfl | exact Or.inr rfl | omega) (by exfalso; omega)
