set_option maxHeartbeats 16000000 in
theorem s_set {γ : GT} {d mc ms n i : Nat} {N J : Nat → Int} {h : Nat → Nat → Int} {τ : List AC} {Post : Option AV → List AC → Prop} (hd : 30 ≤ d) (hn : n < 64) (hi : i + 5 < g_L γ) (hL : g_L γ ≤ 384) (hI : IVp n h τ N J) (kE : ∀ h' N' J', IVp (n + 1) h' τ N' J' → Aj γ mL_law d mc ms Post 1668 [(0, vK 0), (1, vA 0), (2, vA 123), (3, vI ((i : Nat) : Int))] [] (mk h' τ)) : Aj γ mL_law d mc ms Post 434 [(0, vK 0), (1, vA 0), (2, vA 123), (3, vI ((i : Nat) : Int))] [] (mk h τ) := by
  obtain ⟨hN, hJ, hX, hR, hk, hkK, hC, hRC, hst, hO⟩ := id hI
  have hsc := hX.1.1
  have hs1 := hsc.1
  have hs2 := hsc.2.1
  have hs3 := hsc.2.2.1
  have hs4 := hsc.2.2.2.1
  have hs5 := hsc.2.2.2.2
  have hs6 := hX.1.2.2.2.1
  have hx7 := hX.2.1
  have hx8 := hX.2.2.2.1
  obtain ⟨a1, ha1⟩ : ∃ z, (g_x γ (i + 1)).toInt = z := ⟨_, rfl⟩
  have ra1 : inI a1 := ha1 ▸ i32_rng _
  unfold inI at ra1
  obtain ⟨a2, ha2⟩ : ∃ z, (g_x γ (i + 2)).toInt = z := ⟨_, rfl⟩
  have ra2 : inI a2 := ha2 ▸ i32_rng _
  unfold inI at ra2
  obtain ⟨a3, ha3⟩ : ∃ z, (g_x γ (i + 3)).toInt = z := ⟨_, rfl⟩
  have ra3 : inI a3 := ha3 ▸ i32_rng _
  unfold inI at ra3
  by_cases hin : 0 ≤ a1 ∧ a1 < N 5
  · obtain ⟨t0, rfl⟩ : ∃ z : Nat, a1 = (z : Int) := ⟨Int.toNat a1, by omega⟩
    have hb9 := hX.1.2.2.1 t0 (by omega)
    unfold trR at hb9
    refine a_aload_n (j := 1) dL_law_434 rfl rfl (Nat.le_of_ble_eq_true rfl) ?_
    refine a_aload_n (j := 0) dL_law_435 rfl rfl (Nat.le_of_ble_eq_true rfl) ?_
    refine a_iload_n (j := 3) dL_law_436 rfl rfl ?_
    refine a_iconst dL_law_437 ⟨by decide, by decide⟩ ?_
    refine a_iadd (z := (((i : Nat) : Int) + 1)) dL_law_438 (w_ok (by omega) (by omega)) ?_
    refine a_sld (i + 1) dL_law_439 (by omega) (by omega) ?_
    rw [ha1]
    refine a_aload_n (j := 0) dL_law_440 rfl rfl (Nat.le_of_ble_eq_true rfl) ?_
    refine a_iload_n (j := 3) dL_law_441 rfl rfl ?_
    refine a_iconst dL_law_442 ⟨by decide, by decide⟩ ?_
    refine a_iadd (z := (((i : Nat) : Int) + 2)) dL_law_443 (w_ok (by omega) (by omega)) ?_
    refine a_sld (i + 2) dL_law_444 (by omega) (by omega) ?_
    rw [ha2]
    refine a_aload_n (j := 0) dL_law_445 rfl rfl (Nat.le_of_ble_eq_true rfl) ?_
    refine a_iload_n (j := 3) dL_law_446 rfl rfl ?_
    refine a_iconst dL_law_447 ⟨by decide, by decide⟩ ?_
    refine a_iadd (z := (((i : Nat) : Int) + 3)) dL_law_448 (w_ok (by omega) (by omega)) ?_
    refine a_sld (i + 3) dL_law_449 (by omega) (by omega) ?_
    rw [ha3]
    refine b_callV (d' := d - 1) (mc' := 0) (ms' := 0) (mc1 := mc) (ms1 := ms) (st := []) (b := 0) [vI ((t0 : Nat) : Int), vI a2, vI a3] dL_law_450 mwX8_set lkL_40 (by decide) rfl rc_X8 rfl (Nat.le_of_ble_eq_true rfl) (by omega) (by omega) (by omega) (c_X8_set (v1 := (N 5)) (v2 := (h 0 3)) (v3 := (N (19 + 11 * t0))) (v4 := (N (18 + 11 * t0))) (v5 := (N (20 + 11 * t0))) (by omega)  hR.1.2.1 rfl (hR.2.2.1 t0 (by omega)).2.2.2.2.1 (hR.2.2.1 t0 (by omega)).2.2.2.1 (hR.2.2.1 t0 (by omega)).2.2.2.2.2.1 (show 0 ≤ (N 5) ∧ (N 5) ≤ 12 by omega) (show 0 ≤ (h 0 3) ∧ (h 0 3) ≤ 1000 by omega) (fun t5_1_1 c26_2_1 c58_3_1 c86_4_1 => ?_) (fun t5_1_1 c26_2_1 c58_3_1 c86_4_1 t90_5_1 => ?_) (fun t5_1_1 c26_2_1 c58_3_1 c86_4_1 t90_5_1 => ?_) (fun t5_1_1 c26_2_1 c58_3_1 t62_6_1 => ?_) (fun t5_1_1 c26_2_1 c58_3_1 t62_6_1 c86_7_1 => ?_) (fun t5_1_1 c26_2_1 t34_8_1 => ?_) (fun t5_1_1 c26_2_1 t34_8_1 c58_9_1 c86_10_1 => ?_) (fun t5_1_1 => ?_))
    · have t5_1_1 : 0 ≤ ((t0 : Nat) : Int) ∧ ((t0 : Nat) : Int) < (N 5) := t5_1_1
      have c26_2_1 : ¬ a2 = 0 := c26_2_1
      have c58_3_1 : ¬ a2 = 1 := c58_3_1
      have c86_4_1 : ¬ a2 = 2 := c86_4_1
      show Aj γ mL_law d mc ms Post 453 [(0, vK 0), (1, vA 0), (2, vA 123), (3, vI ((i : Nat) : Int))] [vI (-1000000001)] (mk h τ)
      refine a_aload_n (j := 2) dL_law_453 rfl rfl (Nat.le_of_ble_eq_true rfl) ?_
      refine a_aload_n (j := 0) dL_law_454 rfl rfl (Nat.le_of_ble_eq_true rfl) ?_
      refine a_iload_n (j := 3) dL_law_455 rfl rfl ?_
      refine a_iconst dL_law_456 ⟨by decide, by decide⟩ ?_
      refine a_iadd (z := (((i : Nat) : Int) + 1)) dL_law_457 (w_ok (by omega) (by omega)) ?_
      refine a_sld (i + 1) dL_law_458 (by omega) (by omega) ?_
      rw [ha1]
      refine a_aload_n (j := 0) dL_law_459 rfl rfl (Nat.le_of_ble_eq_true rfl) ?_
      refine a_iload_n (j := 3) dL_law_460 rfl rfl ?_
      refine a_iconst dL_law_461 ⟨by decide, by decide⟩ ?_
      refine a_iadd (z := (((i : Nat) : Int) + 2)) dL_law_462 (w_ok (by omega) (by omega)) ?_
      refine a_sld (i + 2) dL_law_463 (by omega) (by omega) ?_
      rw [ha2]
      refine a_aload_n (j := 0) dL_law_464 rfl rfl (Nat.le_of_ble_eq_true rfl) ?_
      refine a_iload_n (j := 3) dL_law_465 rfl rfl ?_
      refine a_iconst dL_law_466 ⟨by decide, by decide⟩ ?_
      refine a_iadd (z := (((i : Nat) : Int) + 3)) dL_law_467 (w_ok (by omega) (by omega)) ?_
      refine a_sld (i + 3) dL_law_468 (by omega) (by omega) ?_
      rw [ha3]
      refine b_callV (d' := d - 1) (mc' := 0) (ms' := 0) (mc1 := mc) (ms1 := ms) (st := [vI (-1000000001)]) (b := 123) [vI ((t0 : Nat) : Int), vI a2, vI a3] dL_law_469 mwX9_set lkL_44 (by decide) rfl rc_X9 rfl (Nat.le_of_ble_eq_true rfl) (by omega) (by omega) (by omega) (c_X9_set (v1 := (N 5)) (v2 := (N (19 + 11 * t0))) (v3 := (N (18 + 11 * t0))) (v4 := (N (20 + 11 * t0))) (by omega)  (congrFun hN _) ((congrArg (h 124) (show (Int.toNat ((15 + (11 * ((t0 : Nat) : Int))) + 4)) = (19 + 11 * t0) by omega)).trans (congrFun hN _)) ((congrArg (h 124) (show (Int.toNat ((15 + (11 * ((t0 : Nat) : Int))) + 3)) = (18 + 11 * t0) by omega)).trans (congrFun hN _)) ((congrArg (h 124) (show (Int.toNat ((15 + (11 * ((t0 : Nat) : Int))) + 5)) = (20 + 11 * t0) by omega)).trans (congrFun hN _)) (show 0 ≤ (N 5) ∧ (N 5) ≤ 12 by omega) (fun t2_1_3 t11_2_3 c20_3_3 c29_4_3 c40_5_3 t52_6_3 c64_7_3 c73_8_3 => ?_) (fun t2_1_3 t11_2_3 c20_3_3 c29_4_3 c40_5_3 t52_6_3 => ?_) (fun t2_1_3 t11_2_3 c20_3_3 c29_4_3 c40_5_3 t52_9_3 c64_10_3 c73_11_3 => ?_) (fun t2_1_3 t11_2_3 c20_3_3 c29_4_3 c40_5_3 t52_9_3 => ?_) (fun t2_1_3 t11_2_3 c20_3_3 c29_4_3 t52_12_3 c64_13_3 => ?_) (fun t2_1_3 t11_2_3 c20_3_3 c29_4_3 t52_12_3 => ?_) (fun t2_1_3 t11_2_3 c20_3_3 c29_14_3 c40_15_3 t52_16_3 c64_17_3 c73_18_3 => ?_) (fun t2_1_3 t11_2_3 c20_3_3 c29_14_3 c40_15_3 t52_16_3 => ?_) (fun t2_1_3 t11_2_3 => ?_) (fun t2_1_3 => ?_))
      · have t2_1_3 : 0 ≤ ((t0 : Nat) : Int) ∧ ((t0 : Nat) : Int) < (N 5) := t2_1_3
        have t11_2_3 : 0 ≤ a2 ∧ a2 ≤ 2 := t11_2_3
        have c20_3_3 : ¬ a2 = 2 := c20_3_3
        have c29_4_3 : ¬ a2 = 0 := c29_4_3
        have c40_5_3 : ¬ a2 = 1 := c40_5_3
        have t52_6_3 : 0 ≤ a3 ∧ a3 ≤ 600 := t52_6_3
        have c64_7_3 : ¬ a2 = 0 := c64_7_3
        have c73_8_3 : ¬ a2 = 1 := c73_8_3
        show Aj γ mL_law d mc ms Post 472 [(0, vK 0), (1, vA 0), (2, vA 123), (3, vI ((i : Nat) : Int))] [vI (N (19 + 11 * t0)), vI (-1000000001)] (mk (up2 (up2 h 124 (Int.toNat ((15 + (11 * ((t0 : Nat) : Int))) + 4)) a3) 123 4 0) τ)
        refine a_icmp_eq (tgt := 1668) dL_law_472 (by decide) (fun c472_5 => ?_) (fun c472_5 => ?_)
        · exfalso
          omega
        · refine a_iconst dL_law_475 ⟨by decide, by decide⟩ ?_
          exact a_zret dL_law_476 rfl (by first | exact Or.inl rfl | exact Or.inr rfl | omega) (by exfalso; omega)
      · have t2_1_3 : 0 ≤ ((t0 : Nat) : Int) ∧ ((t0 : Nat) : Int) < (N 5) := t2_1_3
        have t11_2_3 : 0 ≤ a2 ∧ a2 ≤ 2 := t11_2_3
        have c20_3_3 : ¬ a2 = 2 := c20_3_3
        have c29_4_3 : ¬ a2 = 0 := c29_4_3
        have c40_5_3 : ¬ a2 = 1 := c40_5_3
        have t52_6_3 : ¬ (0 ≤ a3 ∧ a3 ≤ 600) := t52_6_3
        show Aj γ mL_law d mc ms Post 472 [(0, vK 0), (1, vA 0), (2, vA 123), (3, vI ((i : Nat) : Int))] [vI (-1000000001), vI (-1000000001)] (mk h τ)
        refine a_icmp_eq (tgt := 1668) dL_law_472 (by decide) (fun _ => ?_) (fun c => absurd c (by decide))
        exact kE h N J (IV_up (by omega) hI)
      · exfalso
        omega
      · exfalso
        omega
      · exfalso
        omega
      · exfalso
        omega
      · exfalso
        omega
      · exfalso
        omega
      · have t2_1_3 : 0 ≤ ((t0 : Nat) : Int) ∧ ((t0 : Nat) : Int) < (N 5) := t2_1_3
        have t11_2_3 : ¬ (0 ≤ a2 ∧ a2 ≤ 2) := t11_2_3
        show Aj γ mL_law d mc ms Post 472 [(0, vK 0), (1, vA 0), (2, vA 123), (3, vI ((i : Nat) : Int))] [vI (-1000000001), vI (-1000000001)] (mk h τ)
        refine a_icmp_eq (tgt := 1668) dL_law_472 (by decide) (fun _ => ?_) (fun c => absurd c (by decide))
        exact kE h N J (IV_up (by omega) hI)
      · exfalso
        omega
    · have t5_1_1 : 0 ≤ ((t0 : Nat) : Int) ∧ ((t0 : Nat) : Int) < (N 5) := t5_1_1
      have c26_2_1 : ¬ a2 = 0 := c26_2_1
      have c58_3_1 : ¬ a2 = 1 := c58_3_1
      have c86_4_1 : a2 = 2 := c86_4_1
      have t90_5_1 : 1 ≤ a3 ∧ a3 ≤ 600 := t90_5_1
      show Aj γ mL_law d mc ms Post 453 [(0, vK 0), (1, vA 0), (2, vA 123), (3, vI ((i : Nat) : Int))] [vI (N (19 + 11 * t0))] (mk (up2 (up2 (up2 h (8 + 2 * t0) 4 a3) 0 3 ((h 0 3) + 1)) 1 0 ((h 0 3) + 1)) τ)
      refine a_aload_n (j := 2) dL_law_453 rfl rfl (Nat.le_of_ble_eq_true rfl) ?_
      refine a_aload_n (j := 0) dL_law_454 rfl rfl (Nat.le_of_ble_eq_true rfl) ?_
      refine a_iload_n (j := 3) dL_law_455 rfl rfl ?_
      refine a_iconst dL_law_456 ⟨by decide, by decide⟩ ?_
      refine a_iadd (z := (((i : Nat) : Int) + 1)) dL_law_457 (w_ok (by omega) (by omega)) ?_
      refine a_sld (i + 1) dL_law_458 (by omega) (by omega) ?_
      rw [ha1]
      refine a_aload_n (j := 0) dL_law_459 rfl rfl (Nat.le_of_ble_eq_true rfl) ?_
      refine a_iload_n (j := 3) dL_law_460 rfl rfl ?_
      refine a_iconst dL_law_461 ⟨by decide, by decide⟩ ?_
      refine a_iadd (z := (((i : Nat) : Int) + 2)) dL_law_462 (w_ok (by omega) (by omega)) ?_
      refine a_sld (i + 2) dL_law_463 (by omega) (by omega) ?_
      rw [ha2]
      refine a_aload_n (j := 0) dL_law_464 rfl rfl (Nat.le_of_ble_eq_true rfl) ?_
      refine a_iload_n (j := 3) dL_law_465 rfl rfl ?_
      refine a_iconst dL_law_466 ⟨by decide, by decide⟩ ?_
      refine a_iadd (z := (((i : Nat) : Int) + 3)) dL_law_467 (w_ok (by omega) (by omega)) ?_
      refine a_sld (i + 3) dL_law_468 (by omega) (by omega) ?_
      rw [ha3]
      refine b_callV (d' := d - 1) (mc' := 0) (ms' := 0) (mc1 := mc) (ms1 := ms) (st := [vI (N (19 + 11 * t0))]) (b := 123) [vI ((t0 : Nat) : Int), vI a2, vI a3] dL_law_469 mwX9_set lkL_44 (by decide) rfl rc_X9 rfl (Nat.le_of_ble_eq_true rfl) (by omega) (by omega) (by omega) (c_X9_set (v1 := (N 5)) (v2 := (N (19 + 11 * t0))) (v3 := (N (18 + 11 * t0))) (v4 := (N (20 + 11 * t0))) (by omega)  ((up2_ne (by omega)).trans ((up2_ne (by omega)).trans ((up2_ne (by omega)).trans (congrFun hN _)))) ((up2_ne (by omega)).trans ((up2_ne (by omega)).trans ((up2_ne (by omega)).trans ((congrArg (h 124) (show (Int.toNat ((15 + (11 * ((t0 : Nat) : Int))) + 4)) = (19 + 11 * t0) by omega)).trans (congrFun hN _))))) ((up2_ne (by omega)).trans ((up2_ne (by omega)).trans ((up2_ne (by omega)).trans ((congrArg (h 124) (show (Int.toNat ((15 + (11 * ((t0 : Nat) : Int))) + 3)) = (18 + 11 * t0) by omega)).trans (congrFun hN _))))) ((up2_ne (by omega)).trans ((up2_ne (by omega)).trans ((up2_ne (by omega)).trans ((congrArg (h 124) (show (Int.toNat ((15 + (11 * ((t0 : Nat) : Int))) + 5)) = (20 + 11 * t0) by omega)).trans (congrFun hN _))))) (show 0 ≤ (N 5) ∧ (N 5) ≤ 12 by omega) (fun t2_1_6 t11_2_6 c20_3_6 c29_4_6 c40_5_6 t52_6_6 c64_7_6 c73_8_6 => ?_) (fun t2_1_6 t11_2_6 c20_3_6 c29_4_6 c40_5_6 t52_6_6 => ?_) (fun t2_1_6 t11_2_6 c20_3_6 c29_4_6 c40_5_6 t52_9_6 c64_10_6 c73_11_6 => ?_) (fun t2_1_6 t11_2_6 c20_3_6 c29_4_6 c40_5_6 t52_9_6 => ?_) (fun t2_1_6 t11_2_6 c20_3_6 c29_4_6 t52_12_6 c64_13_6 => ?_) (fun t2_1_6 t11_2_6 c20_3_6 c29_4_6 t52_12_6 => ?_) (fun t2_1_6 t11_2_6 c20_3_6 c29_14_6 c40_15_6 t52_16_6 c64_17_6 c73_18_6 => ?_) (fun t2_1_6 t11_2_6 c20_3_6 c29_14_6 c40_15_6 t52_16_6 => ?_) (fun t2_1_6 t11_2_6 => ?_) (fun t2_1_6 => ?_))
      · exfalso
        omega
      · exfalso
        omega
      · exfalso
        omega
      · exfalso
        omega
      · exfalso
        omega
      · exfalso
        omega
      · have t2_1_6 : 0 ≤ ((t0 : Nat) : Int) ∧ ((t0 : Nat) : Int) < (N 5) := t2_1_6
        have t11_2_6 : 0 ≤ a2 ∧ a2 ≤ 2 := t11_2_6
        have c20_3_6 : a2 = 2 := c20_3_6
        have c29_14_6 : ¬ a2 = 0 := c29_14_6
        have c40_15_6 : ¬ a2 = 1 := c40_15_6
        have t52_16_6 : 1 ≤ a3 ∧ a3 ≤ 600 := t52_16_6
        have c64_17_6 : ¬ a2 = 0 := c64_17_6
        have c73_18_6 : ¬ a2 = 1 := c73_18_6
        show Aj γ mL_law d mc ms Post 472 [(0, vK 0), (1, vA 0), (2, vA 123), (3, vI ((i : Nat) : Int))] [vI (N (19 + 11 * t0)), vI (N (19 + 11 * t0))] (mk (up2 (up2 (up2 (up2 (up2 h (8 + 2 * t0) 4 a3) 0 3 ((h 0 3) + 1)) 1 0 ((h 0 3) + 1)) 124 (Int.toNat ((15 + (11 * ((t0 : Nat) : Int))) + 4)) a3) 123 4 0) τ)
        refine a_icmp_eq (tgt := 1668) dL_law_472 (by decide) (fun c472_8 => ?_) (fun c472_8 => ?_)
        · generalize hHH : (up2 (up2 (up2 (up2 (up2 h (8 + 2 * t0) 4 a3) 0 3 ((h 0 3) + 1)) 1 0 ((h 0 3) + 1)) 124 (Int.toNat ((15 + (11 * ((t0 : Nat) : Int))) + 4)) a3) 123 4 0) = H
          have c0_ : H (8 + 2 * t0) 0 = h (8 + 2 * t0) 0 := by rw [← hHH]; exact ((up2_ne (by omega)).trans ((up2_ne (by omega)).trans ((up2_ne (by omega)).trans ((up2_ne (by omega)).trans ((up2_ne (by omega)).trans rfl)))))
          have f15_ : H 124 (15 + 11 * t0) = N (15 + 11 * t0) := by rw [← hHH]; exact ((up2_ne (by omega)).trans ((up2_ne (by omega)).trans ((up2_ne (by omega)).trans ((up2_ne (by omega)).trans ((up2_ne (by omega)).trans (congrFun hN _))))))
          have c1_ : H (8 + 2 * t0) 1 = h (8 + 2 * t0) 1 := by rw [← hHH]; exact ((up2_ne (by omega)).trans ((up2_ne (by omega)).trans ((up2_ne (by omega)).trans ((up2_ne (by omega)).trans ((up2_ne (by omega)).trans rfl)))))
          have f16_ : H 124 (16 + 11 * t0) = N (16 + 11 * t0) := by rw [← hHH]; exact ((up2_ne (by omega)).trans ((up2_ne (by omega)).trans ((up2_ne (by omega)).trans ((up2_ne (by omega)).trans ((up2_ne (by omega)).trans (congrFun hN _))))))
          have c2_ : H (8 + 2 * t0) 2 = h (8 + 2 * t0) 2 := by rw [← hHH]; exact ((up2_ne (by omega)).trans ((up2_ne (by omega)).trans ((up2_ne (by omega)).trans ((up2_ne (by omega)).trans ((up2_ne (by omega)).trans rfl)))))
          have f17_ : H 124 (17 + 11 * t0) = N (17 + 11 * t0) := by rw [← hHH]; exact ((up2_ne (by omega)).trans ((up2_ne (by omega)).trans ((up2_ne (by omega)).trans ((up2_ne (by omega)).trans ((up2_ne (by omega)).trans (congrFun hN _))))))
          have c3_ : H (8 + 2 * t0) 3 = h (8 + 2 * t0) 3 := by rw [← hHH]; exact ((up2_ne (by omega)).trans ((up2_ne (by omega)).trans ((up2_ne (by omega)).trans ((up2_ne (by omega)).trans ((up2_ne (by omega)).trans rfl)))))
          have f18_ : H 124 (18 + 11 * t0) = N (18 + 11 * t0) := by rw [← hHH]; exact ((up2_ne (by omega)).trans ((up2_ne (by omega)).trans ((up2_ne (by omega)).trans ((up2_ne (by omega)).trans ((up2_ne (by omega)).trans (congrFun hN _))))))
          have c4_ : H (8 + 2 * t0) 4 = a3 := by rw [← hHH]; exact ((up2_ne (by omega)).trans ((up2_ne (by omega)).trans ((up2_ne (by omega)).trans ((up2_ne (by omega)).trans (up2_hit (by omega) (by omega))))))
          have f19_ : H 124 (19 + 11 * t0) = a3 := by rw [← hHH]; exact ((up2_ne (by omega)).trans (up2_hit (by omega) (by omega)))
          have c5_ : H (8 + 2 * t0) 5 = h (8 + 2 * t0) 5 := by rw [← hHH]; exact ((up2_ne (by omega)).trans ((up2_ne (by omega)).trans ((up2_ne (by omega)).trans ((up2_ne (by omega)).trans ((up2_ne (by omega)).trans rfl)))))
          have f20_ : H 124 (20 + 11 * t0) = N (20 + 11 * t0) := by rw [← hHH]; exact ((up2_ne (by omega)).trans ((up2_ne (by omega)).trans ((up2_ne (by omega)).trans ((up2_ne (by omega)).trans ((up2_ne (by omega)).trans (congrFun hN _))))))
          have c6_ : H (8 + 2 * t0) 6 = h (8 + 2 * t0) 6 := by rw [← hHH]; exact ((up2_ne (by omega)).trans ((up2_ne (by omega)).trans ((up2_ne (by omega)).trans ((up2_ne (by omega)).trans ((up2_ne (by omega)).trans rfl)))))
          have f21_ : H 124 (21 + 11 * t0) = N (21 + 11 * t0) := by rw [← hHH]; exact ((up2_ne (by omega)).trans ((up2_ne (by omega)).trans ((up2_ne (by omega)).trans ((up2_ne (by omega)).trans ((up2_ne (by omega)).trans (congrFun hN _))))))
          have f4_ : H 124 4 = N 4 := by rw [← hHH]; exact ((up2_ne (by omega)).trans ((up2_ne (by omega)).trans ((up2_ne (by omega)).trans ((up2_ne (by omega)).trans ((up2_ne (by omega)).trans (congrFun hN _))))))
          have e0_ : H ((8 + 2 * t0) + 1) 0 = h ((8 + 2 * t0) + 1) 0 := by rw [← hHH]; exact ((up2_ne (by omega)).trans ((up2_ne (by omega)).trans ((up2_ne (by omega)).trans ((up2_ne (by omega)).trans ((up2_ne (by omega)).trans rfl)))))
          have g0_ : H 124 (22 + 11 * t0 + 0) = N (22 + 11 * t0 + 0) := by rw [← hHH]; exact ((up2_ne (by omega)).trans ((up2_ne (by omega)).trans ((up2_ne (by omega)).trans ((up2_ne (by omega)).trans ((up2_ne (by omega)).trans (congrFun hN _))))))
          have e1_ : H ((8 + 2 * t0) + 1) 1 = h ((8 + 2 * t0) + 1) 1 := by rw [← hHH]; exact ((up2_ne (by omega)).trans ((up2_ne (by omega)).trans ((up2_ne (by omega)).trans ((up2_ne (by omega)).trans ((up2_ne (by omega)).trans rfl)))))
          have g1_ : H 124 (22 + 11 * t0 + 1) = N (22 + 11 * t0 + 1) := by rw [← hHH]; exact ((up2_ne (by omega)).trans ((up2_ne (by omega)).trans ((up2_ne (by omega)).trans ((up2_ne (by omega)).trans ((up2_ne (by omega)).trans (congrFun hN _))))))
          have e2_ : H ((8 + 2 * t0) + 1) 2 = h ((8 + 2 * t0) + 1) 2 := by rw [← hHH]; exact ((up2_ne (by omega)).trans ((up2_ne (by omega)).trans ((up2_ne (by omega)).trans ((up2_ne (by omega)).trans ((up2_ne (by omega)).trans rfl)))))
          have g2_ : H 124 (22 + 11 * t0 + 2) = N (22 + 11 * t0 + 2) := by rw [← hHH]; exact ((up2_ne (by omega)).trans ((up2_ne (by omega)).trans ((up2_ne (by omega)).trans ((up2_ne (by omega)).trans ((up2_ne (by omega)).trans (congrFun hN _))))))
          have e3_ : H ((8 + 2 * t0) + 1) 3 = h ((8 + 2 * t0) + 1) 3 := by rw [← hHH]; exact ((up2_ne (by omega)).trans ((up2_ne (by omega)).trans ((up2_ne (by omega)).trans ((up2_ne (by omega)).trans ((up2_ne (by omega)).trans rfl)))))
          have g3_ : H 124 (22 + 11 * t0 + 3) = N (22 + 11 * t0 + 3) := by rw [← hHH]; exact ((up2_ne (by omega)).trans ((up2_ne (by omega)).trans ((up2_ne (by omega)).trans ((up2_ne (by omega)).trans ((up2_ne (by omega)).trans (congrFun hN _))))))
          have f22_ : H 124 (22 + 11 * t0) = N (22 + 11 * t0) := by rw [← hHH]; exact ((up2_ne (by omega)).trans ((up2_ne (by omega)).trans ((up2_ne (by omega)).trans ((up2_ne (by omega)).trans ((up2_ne (by omega)).trans (congrFun hN _))))))
          have hb0 := hX.1.2.2.1 t0 (by omega)
          unfold trR at hb0
          have hw0 := hR.2.2.1 t0 (by omega)
          unfold trW at hw0
          have hr : trR (H 124) t0 := by unfold trR; rw [f4_, f15_, f16_, f17_, f18_, f19_, f20_, f21_, f22_, g1_, g2_, g3_]; omega
          have hw : trW H (8 + 2 * t0) (H 124) t0 := ⟨c0_.trans (hw0.1.trans f15_.symm), c1_.trans (hw0.2.1.trans f16_.symm), c2_.trans (hw0.2.2.1.trans f17_.symm), c3_.trans (hw0.2.2.2.1.trans f18_.symm), (by rw [c4_, f19_] <;> omega), c5_.trans (hw0.2.2.2.2.2.1.trans f20_.symm), c6_.trans (hw0.2.2.2.2.2.2.1.trans (congrArg hsF f21_.symm)), fun s hs => by
            rcases (show s = 0 ∨ s = 1 ∨ s = 2 ∨ s = 3 by omega) with rfl | rfl | rfl | rfl
            · exact e0_.trans ((hw0.2.2.2.2.2.2.2 0 (by decide)).trans g0_.symm)
            · exact e1_.trans ((hw0.2.2.2.2.2.2.2 1 (by decide)).trans g1_.symm)
            · exact e2_.trans ((hw0.2.2.2.2.2.2.2 2 (by decide)).trans g2_.symm)
            · exact e3_.trans ((hw0.2.2.2.2.2.2.2 3 (by decide)).trans g3_.symm)⟩
          have a1_ : ∀ k : Nat, k ≠ 0 → H 1 k = h 1 k := fun k q0_ => by rw [← hHH]; exact ((up2_ne (by omega)).trans ((up2_ne (by omega)).trans ((up2_ne (by omega)).trans ((up2_ne (by omega)).trans ((up2_ne (by omega)).trans rfl)))))
          have a5_ : ∀ c, 2 ≤ c → c < 32 → c ≠ 8 + 2 * t0 → c ≠ 8 + 2 * t0 + 1 → H c = h c := fun c q0_ q1_ q2_ q3_ => by rw [← hHH]; exact ((up2_row (by omega)).trans ((up2_row (by omega)).trans ((up2_row (by omega)).trans ((up2_row (by omega)).trans ((up2_row (by omega)).trans rfl)))))
          have n3_ : ∀ k : Nat, (k < 15 + 11 * t0 ∨ 15 + 11 * t0 + 11 ≤ k) → H 124 k = N k := fun k q0_ => by rw [← hHH]; exact ((up2_ne (by omega)).trans ((up2_ne (by omega)).trans ((up2_ne (by omega)).trans ((up2_ne (by omega)).trans ((up2_ne (by omega)).trans (congrFun hN _))))))
          have hW := W_tr (h := h) (h' := H) (t0 := t0) hX hR (by omega) a1_ a5_ n3_ hr hw
          have gF : ∀ c, ¬ inW c → H c = h c := fun c q0_ => by unfold inW at q0_; rw [← hHH]; exact ((up2_row (by omega)).trans ((up2_row (by omega)).trans ((up2_row (by omega)).trans ((up2_row (by omega)).trans ((up2_row (by omega)).trans rfl)))))
          have g0 : ∀ k : Nat, k ≠ 3 → H 0 k = h 0 k := fun k q0_ => by rw [← hHH]; exact ((up2_ne (by omega)).trans ((up2_ne (by omega)).trans ((up2_ne (by omega)).trans ((up2_ne (by omega)).trans ((up2_ne (by omega)).trans rfl)))))
          have e03 : H 0 3 = ((h 0 3) + 1) := by rw [← hHH]; exact ((up2_ne (by omega)).trans ((up2_ne (by omega)).trans ((up2_ne (by omega)).trans (up2_hit (by omega) (by omega)))))
          have e10 : H 1 0 = ((h 0 3) + 1) := by rw [← hHH]; exact ((up2_ne (by omega)).trans ((up2_ne (by omega)).trans (up2_hit (by omega) (by omega))))
          have g3 : ∀ k : Nat, k ≠ 4 → H 123 k = h 123 k := fun k q0_ => by rw [← hHH]; exact ((up2_ne (by omega)).trans ((up2_ne (by omega)).trans ((up2_ne (by omega)).trans ((up2_ne (by omega)).trans ((up2_ne (by omega)).trans rfl)))))
          have e4 : H 123 4 = 0 := by rw [← hHH]; exact (up2_hit (by omega) (by omega))
          exact kE H (H 124) J (IV_s hI gF g0 e03 e10 g3 e4 rfl hW.1 hW.2)
        · refine a_iconst dL_law_475 ⟨by decide, by decide⟩ ?_
          exact a_zret dL_law_476 rfl (by first | exact Or.inl rfl | exact Or.inr rfl | omega) (by exfalso; omega)
      · exfalso
        omega
      · have t2_1_6 : 0 ≤ ((t0 : Nat) : Int) ∧ ((t0 : Nat) : Int) < (N 5) := t2_1_6
        have t11_2_6 : ¬ (0 ≤ a2 ∧ a2 ≤ 2) := t11_2_6
        show Aj γ mL_law d mc ms Post 472 [(0, vK 0), (1, vA 0), (2, vA 123), (3, vI ((i : Nat) : Int))] [vI (-1000000001), vI (N (19 + 11 * t0))] (mk (up2 (up2 (up2 h (8 + 2 * t0) 4 a3) 0 3 ((h 0 3) + 1)) 1 0 ((h 0 3) + 1)) τ)
        refine a_icmp_eq (tgt := 1668) dL_law_472 (by decide) (fun c472_9 => ?_) (fun c472_9 => ?_)
        · exfalso
          omega
        · refine a_iconst dL_law_475 ⟨by decide, by decide⟩ ?_
          exact a_zret dL_law_476 rfl (by first | exact Or.inl rfl | exact Or.inr rfl | omega) (by exfalso; omega)
      · exfalso
        omega
    · have t5_1_1 : 0 ≤ ((t0 : Nat) : Int) ∧ ((t0 : Nat) : Int) < (N 5) := t5_1_1
      have c26_2_1 : ¬ a2 = 0 := c26_2_1
      have c58_3_1 : ¬ a2 = 1 := c58_3_1
      have c86_4_1 : a2 = 2 := c86_4_1
      have t90_5_1 : ¬ (1 ≤ a3 ∧ a3 ≤ 600) := t90_5_1
      show Aj γ mL_law d mc ms Post 453 [(0, vK 0), (1, vA 0), (2, vA 123), (3, vI ((i : Nat) : Int))] [vI (-1000000001)] (mk h τ)
      refine a_aload_n (j := 2) dL_law_453 rfl rfl (Nat.le_of_ble_eq_true rfl) ?_
      refine a_aload_n (j := 0) dL_law_454 rfl rfl (Nat.le_of_ble_eq_true rfl) ?_
      refine a_iload_n (j := 3) dL_law_455 rfl rfl ?_
      refine a_iconst dL_law_456 ⟨by decide, by decide⟩ ?_
      refine a_iadd (z := (((i : Nat) : Int) + 1)) dL_law_457 (w_ok (by omega) (by omega)) ?_
      refine a_sld (i + 1) dL_law_458 (by omega) (by omega) ?_
      rw [ha1]
      refine a_aload_n (j := 0) dL_law_459 rfl rfl (Nat.le_of_ble_eq_true rfl) ?_
      refine a_iload_n (j := 3) dL_law_460 rfl rfl ?_
      refine a_iconst dL_law_461 ⟨by decide, by decide⟩ ?_
      refine a_iadd (z := (((i : Nat) : Int) + 2)) dL_law_462 (w_ok (by omega) (by omega)) ?_
      refine a_sld (i + 2) dL_law_463 (by omega) (by omega) ?_
      rw [ha2]
      refine a_aload_n (j := 0) dL_law_464 rfl rfl (Nat.le_of_ble_eq_true rfl) ?_
      refine a_iload_n (j := 3) dL_law_465 rfl rfl ?_
      refine a_iconst dL_law_466 ⟨by decide, by decide⟩ ?_
      refine a_iadd (z := (((i : Nat) : Int) + 3)) dL_law_467 (w_ok (by omega) (by omega)) ?_
      refine a_sld (i + 3) dL_law_468 (by omega) (by omega) ?_
      rw [ha3]
      refine b_callV (d' := d - 1) (mc' := 0) (ms' := 0) (mc1 := mc) (ms1 := ms) (st := [vI (-1000000001)]) (b := 123) [vI ((t0 : Nat) : Int), vI a2, vI a3] dL_law_469 mwX9_set lkL_44 (by decide) rfl rc_X9 rfl (Nat.le_of_ble_eq_true rfl) (by omega) (by omega) (by omega) (c_X9_set (v1 := (N 5)) (v2 := (N (19 + 11 * t0))) (v3 := (N (18 + 11 * t0))) (v4 := (N (20 + 11 * t0))) (by omega)  (congrFun hN _) ((congrArg (h 124) (show (Int.toNat ((15 + (11 * ((t0 : Nat) : Int))) + 4)) = (19 + 11 * t0) by omega)).trans (congrFun hN _)) ((congrArg (h 124) (show (Int.toNat ((15 + (11 * ((t0 : Nat) : Int))) + 3)) = (18 + 11 * t0) by omega)).trans (congrFun hN _)) ((congrArg (h 124) (show (Int.toNat ((15 + (11 * ((t0 : Nat) : Int))) + 5)) = (20 + 11 * t0) by omega)).trans (congrFun hN _)) (show 0 ≤ (N 5) ∧ (N 5) ≤ 12 by omega) (fun t2_1_10 t11_2_10 c20_3_10 c29_4_10 c40_5_10 t52_6_10 c64_7_10 c73_8_10 => ?_) (fun t2_1_10 t11_2_10 c20_3_10 c29_4_10 c40_5_10 t52_6_10 => ?_) (fun t2_1_10 t11_2_10 c20_3_10 c29_4_10 c40_5_10 t52_9_10 c64_10_10 c73_11_10 => ?_) (fun t2_1_10 t11_2_10 c20_3_10 c29_4_10 c40_5_10 t52_9_10 => ?_) (fun t2_1_10 t11_2_10 c20_3_10 c29_4_10 t52_12_10 c64_13_10 => ?_) (fun t2_1_10 t11_2_10 c20_3_10 c29_4_10 t52_12_10 => ?_) (fun t2_1_10 t11_2_10 c20_3_10 c29_14_10 c40_15_10 t52_16_10 c64_17_10 c73_18_10 => ?_) (fun t2_1_10 t11_2_10 c20_3_10 c29_14_10 c40_15_10 t52_16_10 => ?_) (fun t2_1_10 t11_2_10 => ?_) (fun t2_1_10 => ?_))
      · exfalso
        omega
      · exfalso
        omega
      · exfalso
        omega
      · exfalso
        omega
      · exfalso
        omega
      · exfalso
        omega
      · exfalso
        omega
      · have t2_1_10 : 0 ≤ ((t0 : Nat) : Int) ∧ ((t0 : Nat) : Int) < (N 5) := t2_1_10
        have t11_2_10 : 0 ≤ a2 ∧ a2 ≤ 2 := t11_2_10
        have c20_3_10 : a2 = 2 := c20_3_10
        have c29_14_10 : ¬ a2 = 0 := c29_14_10
        have c40_15_10 : ¬ a2 = 1 := c40_15_10
        have t52_16_10 : ¬ (1 ≤ a3 ∧ a3 ≤ 600) := t52_16_10
        show Aj γ mL_law d mc ms Post 472 [(0, vK 0), (1, vA 0), (2, vA 123), (3, vI ((i : Nat) : Int))] [vI (-1000000001), vI (-1000000001)] (mk h τ)
        refine a_icmp_eq (tgt := 1668) dL_law_472 (by decide) (fun _ => ?_) (fun c => absurd c (by decide))
        exact kE h N J (IV_up (by omega) hI)
      · have t2_1_10 : 0 ≤ ((t0 : Nat) : Int) ∧ ((t0 : Nat) : Int) < (N 5) := t2_1_10
        have t11_2_10 : ¬ (0 ≤ a2 ∧ a2 ≤ 2) := t11_2_10
        show Aj γ mL_law d mc ms Post 472 [(0, vK 0), (1, vA 0), (2, vA 123), (3, vI ((i : Nat) : Int))] [vI (-1000000001), vI (-1000000001)] (mk h τ)
        refine a_icmp_eq (tgt := 1668) dL_law_472 (by decide) (fun _ => ?_) (fun c => absurd c (by decide))
        exact kE h N J (IV_up (by omega) hI)
      · exfalso
        omega
    · have t5_1_1 : 0 ≤ ((t0 : Nat) : Int) ∧ ((t0 : Nat) : Int) < (N 5) := t5_1_1
      have c26_2_1 : ¬ a2 = 0 := c26_2_1
      have c58_3_1 : a2 = 1 := c58_3_1
      have t62_6_1 : 0 ≤ a3 ∧ a3 ≤ 1439 := t62_6_1
      show Aj γ mL_law d mc ms Post 453 [(0, vK 0), (1, vA 0), (2, vA 123), (3, vI ((i : Nat) : Int))] [vI (N (18 + 11 * t0))] (mk (up2 (up2 (up2 h (8 + 2 * t0) 3 a3) 0 3 ((h 0 3) + 1)) 1 0 ((h 0 3) + 1)) τ)
      refine a_aload_n (j := 2) dL_law_453 rfl rfl (Nat.le_of_ble_eq_true rfl) ?_
      refine a_aload_n (j := 0) dL_law_454 rfl rfl (Nat.le_of_ble_eq_true rfl) ?_
      refine a_iload_n (j := 3) dL_law_455 rfl rfl ?_
      refine a_iconst dL_law_456 ⟨by decide, by decide⟩ ?_
      refine a_iadd (z := (((i : Nat) : Int) + 1)) dL_law_457 (w_ok (by omega) (by omega)) ?_
      refine a_sld (i + 1) dL_law_458 (by omega) (by omega) ?_
      rw [ha1]
      refine a_aload_n (j := 0) dL_law_459 rfl rfl (Nat.le_of_ble_eq_true rfl) ?_
      refine a_iload_n (j := 3) dL_law_460 rfl rfl ?_
      refine a_iconst dL_law_461 ⟨by decide, by decide⟩ ?_
      refine a_iadd (z := (((i : Nat) : Int) + 2)) dL_law_462 (w_ok (by omega) (by omega)) ?_
      refine a_sld (i + 2) dL_law_463 (by omega) (by omega) ?_
      rw [ha2]
      refine a_aload_n (j := 0) dL_law_464 rfl rfl (Nat.le_of_ble_eq_true rfl) ?_
      refine a_iload_n (j := 3) dL_law_465 rfl rfl ?_
      refine a_iconst dL_law_466 ⟨by decide, by decide⟩ ?_
      refine a_iadd (z := (((i : Nat) : Int) + 3)) dL_law_467 (w_ok (by omega) (by omega)) ?_
      refine a_sld (i + 3) dL_law_468 (by omega) (by omega) ?_
      rw [ha3]
      refine b_callV (d' := d - 1) (mc' := 0) (ms' := 0) (mc1 := mc) (ms1 := ms) (st := [vI (N (18 + 11 * t0))]) (b := 123) [vI ((t0 : Nat) : Int), vI a2, vI a3] dL_law_469 mwX9_set lkL_44 (by decide) rfl rc_X9 rfl (Nat.le_of_ble_eq_true rfl) (by omega) (by omega) (by omega) (c_X9_set (v1 := (N 5)) (v2 := (N (19 + 11 * t0))) (v3 := (N (18 + 11 * t0))) (v4 := (N (20 + 11 * t0))) (by omega)  ((up2_ne (by omega)).trans ((up2_ne (by omega)).trans ((up2_ne (by omega)).trans (congrFun hN _)))) ((up2_ne (by omega)).trans ((up2_ne (by omega)).trans ((up2_ne (by omega)).trans ((congrArg (h 124) (show (Int.toNat ((15 + (11 * ((t0 : Nat) : Int))) + 4)) = (19 + 11 * t0) by omega)).trans (congrFun hN _))))) ((up2_ne (by omega)).trans ((up2_ne (by omega)).trans ((up2_ne (by omega)).trans ((congrArg (h 124) (show (Int.toNat ((15 + (11 * ((t0 : Nat) : Int))) + 3)) = (18 + 11 * t0) by omega)).trans (congrFun hN _))))) ((up2_ne (by omega)).trans ((up2_ne (by omega)).trans ((up2_ne (by omega)).trans ((congrArg (h 124) (show (Int.toNat ((15 + (11 * ((t0 : Nat) : Int))) + 5)) = (20 + 11 * t0) by omega)).trans (congrFun hN _))))) (show 0 ≤ (N 5) ∧ (N 5) ≤ 12 by omega) (fun t2_1_12 t11_2_12 c20_3_12 c29_4_12 c40_5_12 t52_6_12 c64_7_12 c73_8_12 => ?_) (fun t2_1_12 t11_2_12 c20_3_12 c29_4_12 c40_5_12 t52_6_12 => ?_) (fun t2_1_12 t11_2_12 c20_3_12 c29_4_12 c40_5_12 t52_9_12 c64_10_12 c73_11_12 => ?_) (fun t2_1_12 t11_2_12 c20_3_12 c29_4_12 c40_5_12 t52_9_12 => ?_) (fun t2_1_12 t11_2_12 c20_3_12 c29_4_12 t52_12_12 c64_13_12 => ?_) (fun t2_1_12 t11_2_12 c20_3_12 c29_4_12 t52_12_12 => ?_) (fun t2_1_12 t11_2_12 c20_3_12 c29_14_12 c40_15_12 t52_16_12 c64_17_12 c73_18_12 => ?_) (fun t2_1_12 t11_2_12 c20_3_12 c29_14_12 c40_15_12 t52_16_12 => ?_) (fun t2_1_12 t11_2_12 => ?_) (fun t2_1_12 => ?_))
      · exfalso
        omega
      · exfalso
        omega
      · have t2_1_12 : 0 ≤ ((t0 : Nat) : Int) ∧ ((t0 : Nat) : Int) < (N 5) := t2_1_12
        have t11_2_12 : 0 ≤ a2 ∧ a2 ≤ 2 := t11_2_12
        have c20_3_12 : ¬ a2 = 2 := c20_3_12
        have c29_4_12 : ¬ a2 = 0 := c29_4_12
        have c40_5_12 : a2 = 1 := c40_5_12
        have t52_9_12 : 0 ≤ a3 ∧ a3 ≤ 1439 := t52_9_12
        have c64_10_12 : ¬ a2 = 0 := c64_10_12
        have c73_11_12 : a2 = 1 := c73_11_12
        show Aj γ mL_law d mc ms Post 472 [(0, vK 0), (1, vA 0), (2, vA 123), (3, vI ((i : Nat) : Int))] [vI (N (18 + 11 * t0)), vI (N (18 + 11 * t0))] (mk (up2 (up2 (up2 (up2 (up2 h (8 + 2 * t0) 3 a3) 0 3 ((h 0 3) + 1)) 1 0 ((h 0 3) + 1)) 124 (Int.toNat ((15 + (11 * ((t0 : Nat) : Int))) + 3)) a3) 123 4 0) τ)
        refine a_icmp_eq (tgt := 1668) dL_law_472 (by decide) (fun c472_14 => ?_) (fun c472_14 => ?_)
        · generalize hHH : (up2 (up2 (up2 (up2 (up2 h (8 + 2 * t0) 3 a3) 0 3 ((h 0 3) + 1)) 1 0 ((h 0 3) + 1)) 124 (Int.toNat ((15 + (11 * ((t0 : Nat) : Int))) + 3)) a3) 123 4 0) = H
          have c0_ : H (8 + 2 * t0) 0 = h (8 + 2 * t0) 0 := by rw [← hHH]; exact ((up2_ne (by omega)).trans ((up2_ne (by omega)).trans ((up2_ne (by omega)).trans ((up2_ne (by omega)).trans ((up2_ne (by omega)).trans rfl)))))
          have f15_ : H 124 (15 + 11 * t0) = N (15 + 11 * t0) := by rw [← hHH]; exact ((up2_ne (by omega)).trans ((up2_ne (by omega)).trans ((up2_ne (by omega)).trans ((up2_ne (by omega)).trans ((up2_ne (by omega)).trans (congrFun hN _))))))
          have c1_ : H (8 + 2 * t0) 1 = h (8 + 2 * t0) 1 := by rw [← hHH]; exact ((up2_ne (by omega)).trans ((up2_ne (by omega)).trans ((up2_ne (by omega)).trans ((up2_ne (by omega)).trans ((up2_ne (by omega)).trans rfl)))))
          have f16_ : H 124 (16 + 11 * t0) = N (16 + 11 * t0) := by rw [← hHH]; exact ((up2_ne (by omega)).trans ((up2_ne (by omega)).trans ((up2_ne (by omega)).trans ((up2_ne (by omega)).trans ((up2_ne (by omega)).trans (congrFun hN _))))))
          have c2_ : H (8 + 2 * t0) 2 = h (8 + 2 * t0) 2 := by rw [← hHH]; exact ((up2_ne (by omega)).trans ((up2_ne (by omega)).trans ((up2_ne (by omega)).trans ((up2_ne (by omega)).trans ((up2_ne (by omega)).trans rfl)))))
          have f17_ : H 124 (17 + 11 * t0) = N (17 + 11 * t0) := by rw [← hHH]; exact ((up2_ne (by omega)).trans ((up2_ne (by omega)).trans ((up2_ne (by omega)).trans ((up2_ne (by omega)).trans ((up2_ne (by omega)).trans (congrFun hN _))))))
          have c3_ : H (8 + 2 * t0) 3 = a3 := by rw [← hHH]; exact ((up2_ne (by omega)).trans ((up2_ne (by omega)).trans ((up2_ne (by omega)).trans ((up2_ne (by omega)).trans (up2_hit (by omega) (by omega))))))
          have f18_ : H 124 (18 + 11 * t0) = a3 := by rw [← hHH]; exact ((up2_ne (by omega)).trans (up2_hit (by omega) (by omega)))
          have c4_ : H (8 + 2 * t0) 4 = h (8 + 2 * t0) 4 := by rw [← hHH]; exact ((up2_ne (by omega)).trans ((up2_ne (by omega)).trans ((up2_ne (by omega)).trans ((up2_ne (by omega)).trans ((up2_ne (by omega)).trans rfl)))))
          have f19_ : H 124 (19 + 11 * t0) = N (19 + 11 * t0) := by rw [← hHH]; exact ((up2_ne (by omega)).trans ((up2_ne (by omega)).trans ((up2_ne (by omega)).trans ((up2_ne (by omega)).trans ((up2_ne (by omega)).trans (congrFun hN _))))))
          have c5_ : H (8 + 2 * t0) 5 = h (8 + 2 * t0) 5 := by rw [← hHH]; exact ((up2_ne (by omega)).trans ((up2_ne (by omega)).trans ((up2_ne (by omega)).trans ((up2_ne (by omega)).trans ((up2_ne (by omega)).trans rfl)))))
          have f20_ : H 124 (20 + 11 * t0) = N (20 + 11 * t0) := by rw [← hHH]; exact ((up2_ne (by omega)).trans ((up2_ne (by omega)).trans ((up2_ne (by omega)).trans ((up2_ne (by omega)).trans ((up2_ne (by omega)).trans (congrFun hN _))))))
          have c6_ : H (8 + 2 * t0) 6 = h (8 + 2 * t0) 6 := by rw [← hHH]; exact ((up2_ne (by omega)).trans ((up2_ne (by omega)).trans ((up2_ne (by omega)).trans ((up2_ne (by omega)).trans ((up2_ne (by omega)).trans rfl)))))
          have f21_ : H 124 (21 + 11 * t0) = N (21 + 11 * t0) := by rw [← hHH]; exact ((up2_ne (by omega)).trans ((up2_ne (by omega)).trans ((up2_ne (by omega)).trans ((up2_ne (by omega)).trans ((up2_ne (by omega)).trans (congrFun hN _))))))
          have f4_ : H 124 4 = N 4 := by rw [← hHH]; exact ((up2_ne (by omega)).trans ((up2_ne (by omega)).trans ((up2_ne (by omega)).trans ((up2_ne (by omega)).trans ((up2_ne (by omega)).trans (congrFun hN _))))))
          have e0_ : H ((8 + 2 * t0) + 1) 0 = h ((8 + 2 * t0) + 1) 0 := by rw [← hHH]; exact ((up2_ne (by omega)).trans ((up2_ne (by omega)).trans ((up2_ne (by omega)).trans ((up2_ne (by omega)).trans ((up2_ne (by omega)).trans rfl)))))
          have g0_ : H 124 (22 + 11 * t0 + 0) = N (22 + 11 * t0 + 0) := by rw [← hHH]; exact ((up2_ne (by omega)).trans ((up2_ne (by omega)).trans ((up2_ne (by omega)).trans ((up2_ne (by omega)).trans ((up2_ne (by omega)).trans (congrFun hN _))))))
          have e1_ : H ((8 + 2 * t0) + 1) 1 = h ((8 + 2 * t0) + 1) 1 := by rw [← hHH]; exact ((up2_ne (by omega)).trans ((up2_ne (by omega)).trans ((up2_ne (by omega)).trans ((up2_ne (by omega)).trans ((up2_ne (by omega)).trans rfl)))))
          have g1_ : H 124 (22 + 11 * t0 + 1) = N (22 + 11 * t0 + 1) := by rw [← hHH]; exact ((up2_ne (by omega)).trans ((up2_ne (by omega)).trans ((up2_ne (by omega)).trans ((up2_ne (by omega)).trans ((up2_ne (by omega)).trans (congrFun hN _))))))
          have e2_ : H ((8 + 2 * t0) + 1) 2 = h ((8 + 2 * t0) + 1) 2 := by rw [← hHH]; exact ((up2_ne (by omega)).trans ((up2_ne (by omega)).trans ((up2_ne (by omega)).trans ((up2_ne (by omega)).trans ((up2_ne (by omega)).trans rfl)))))
          have g2_ : H 124 (22 + 11 * t0 + 2) = N (22 + 11 * t0 + 2) := by rw [← hHH]; exact ((up2_ne (by omega)).trans ((up2_ne (by omega)).trans ((up2_ne (by omega)).trans ((up2_ne (by omega)).trans ((up2_ne (by omega)).trans (congrFun hN _))))))
          have e3_ : H ((8 + 2 * t0) + 1) 3 = h ((8 + 2 * t0) + 1) 3 := by rw [← hHH]; exact ((up2_ne (by omega)).trans ((up2_ne (by omega)).trans ((up2_ne (by omega)).trans ((up2_ne (by omega)).trans ((up2_ne (by omega)).trans rfl)))))
          have g3_ : H 124 (22 + 11 * t0 + 3) = N (22 + 11 * t0 + 3) := by rw [← hHH]; exact ((up2_ne (by omega)).trans ((up2_ne (by omega)).trans ((up2_ne (by omega)).trans ((up2_ne (by omega)).trans ((up2_ne (by omega)).trans (congrFun hN _))))))
          have f22_ : H 124 (22 + 11 * t0) = N (22 + 11 * t0) := by rw [← hHH]; exact ((up2_ne (by omega)).trans ((up2_ne (by omega)).trans ((up2_ne (by omega)).trans ((up2_ne (by omega)).trans ((up2_ne (by omega)).trans (congrFun hN _))))))
          have hb0 := hX.1.2.2.1 t0 (by omega)
          unfold trR at hb0
          have hw0 := hR.2.2.1 t0 (by omega)
          unfold trW at hw0
          have hr : trR (H 124) t0 := by unfold trR; rw [f4_, f15_, f16_, f17_, f18_, f19_, f20_, f21_, f22_, g1_, g2_, g3_]; omega
          have hw : trW H (8 + 2 * t0) (H 124) t0 := ⟨c0_.trans (hw0.1.trans f15_.symm), c1_.trans (hw0.2.1.trans f16_.symm), c2_.trans (hw0.2.2.1.trans f17_.symm), (by rw [c3_, f18_] <;> omega), c4_.trans (hw0.2.2.2.2.1.trans f19_.symm), c5_.trans (hw0.2.2.2.2.2.1.trans f20_.symm), c6_.trans (hw0.2.2.2.2.2.2.1.trans (congrArg hsF f21_.symm)), fun s hs => by
            rcases (show s = 0 ∨ s = 1 ∨ s = 2 ∨ s = 3 by omega) with rfl | rfl | rfl | rfl
            · exact e0_.trans ((hw0.2.2.2.2.2.2.2 0 (by decide)).trans g0_.symm)
            · exact e1_.trans ((hw0.2.2.2.2.2.2.2 1 (by decide)).trans g1_.symm)
            · exact e2_.trans ((hw0.2.2.2.2.2.2.2 2 (by decide)).trans g2_.symm)
            · exact e3_.trans ((hw0.2.2.2.2.2.2.2 3 (by decide)).trans g3_.symm)⟩
          have a1_ : ∀ k : Nat, k ≠ 0 → H 1 k = h 1 k := fun k q0_ => by rw [← hHH]; exact ((up2_ne (by omega)).trans ((up2_ne (by omega)).trans ((up2_ne (by omega)).trans ((up2_ne (by omega)).trans ((up2_ne (by omega)).trans rfl)))))
          have a5_ : ∀ c, 2 ≤ c → c < 32 → c ≠ 8 + 2 * t0 → c ≠ 8 + 2 * t0 + 1 → H c = h c := fun c q0_ q1_ q2_ q3_ => by rw [← hHH]; exact ((up2_row (by omega)).trans ((up2_row (by omega)).trans ((up2_row (by omega)).trans ((up2_row (by omega)).trans ((up2_row (by omega)).trans rfl)))))
          have n3_ : ∀ k : Nat, (k < 15 + 11 * t0 ∨ 15 + 11 * t0 + 11 ≤ k) → H 124 k = N k := fun k q0_ => by rw [← hHH]; exact ((up2_ne (by omega)).trans ((up2_ne (by omega)).trans ((up2_ne (by omega)).trans ((up2_ne (by omega)).trans ((up2_ne (by omega)).trans (congrFun hN _))))))
          have hW := W_tr (h := h) (h' := H) (t0 := t0) hX hR (by omega) a1_ a5_ n3_ hr hw
          have gF : ∀ c, ¬ inW c → H c = h c := fun c q0_ => by unfold inW at q0_; rw [← hHH]; exact ((up2_row (by omega)).trans ((up2_row (by omega)).trans ((up2_row (by omega)).trans ((up2_row (by omega)).trans ((up2_row (by omega)).trans rfl)))))
          have g0 : ∀ k : Nat, k ≠ 3 → H 0 k = h 0 k := fun k q0_ => by rw [← hHH]; exact ((up2_ne (by omega)).trans ((up2_ne (by omega)).trans ((up2_ne (by omega)).trans ((up2_ne (by omega)).trans ((up2_ne (by omega)).trans rfl)))))
          have e03 : H 0 3 = ((h 0 3) + 1) := by rw [← hHH]; exact ((up2_ne (by omega)).trans ((up2_ne (by omega)).trans ((up2_ne (by omega)).trans (up2_hit (by omega) (by omega)))))
          have e10 : H 1 0 = ((h 0 3) + 1) := by rw [← hHH]; exact ((up2_ne (by omega)).trans ((up2_ne (by omega)).trans (up2_hit (by omega) (by omega))))
          have g3 : ∀ k : Nat, k ≠ 4 → H 123 k = h 123 k := fun k q0_ => by rw [← hHH]; exact ((up2_ne (by omega)).trans ((up2_ne (by omega)).trans ((up2_ne (by omega)).trans ((up2_ne (by omega)).trans ((up2_ne (by omega)).trans rfl)))))
          have e4 : H 123 4 = 0 := by rw [← hHH]; exact (up2_hit (by omega) (by omega))
          exact kE H (H 124) J (IV_s hI gF g0 e03 e10 g3 e4 rfl hW.1 hW.2)
        · refine a_iconst dL_law_475 ⟨by decide, by decide⟩ ?_
          exact a_zret dL_law_476 rfl (by first | exact Or.inl rfl | exact Or.inr rfl | omega) (by exfalso; omega)
      · exfalso
        omega
      · exfalso
        omega
      · exfalso
        omega
      · exfalso
        omega
      · exfalso
        omega
      · have t2_1_12 : 0 ≤ ((t0 : Nat) : Int) ∧ ((t0 : Nat) : Int) < (N 5) := t2_1_12
        have t11_2_12 : ¬ (0 ≤ a2 ∧ a2 ≤ 2) := t11_2_12
        show Aj γ mL_law d mc ms Post 472 [(0, vK 0), (1, vA 0), (2, vA 123), (3, vI ((i : Nat) : Int))] [vI (-1000000001), vI (N (18 + 11 * t0))] (mk (up2 (up2 (up2 h (8 + 2 * t0) 3 a3) 0 3 ((h 0 3) + 1)) 1 0 ((h 0 3) + 1)) τ)
        refine a_icmp_eq (tgt := 1668) dL_law_472 (by decide) (fun c472_15 => ?_) (fun c472_15 => ?_)
        · exfalso
          omega
        · refine a_iconst dL_law_475 ⟨by decide, by decide⟩ ?_
          exact a_zret dL_law_476 rfl (by first | exact Or.inl rfl | exact Or.inr rfl | omega) (by exfalso; omega)
      · exfalso
        omega
    · have t5_1_1 : 0 ≤ ((t0 : Nat) : Int) ∧ ((t0 : Nat) : Int) < (N 5) := t5_1_1
      have c26_2_1 : ¬ a2 = 0 := c26_2_1
      have c58_3_1 : a2 = 1 := c58_3_1
      have t62_6_1 : ¬ (0 ≤ a3 ∧ a3 ≤ 1439) := t62_6_1
      have c86_7_1 : ¬ a2 = 2 := c86_7_1
      show Aj γ mL_law d mc ms Post 453 [(0, vK 0), (1, vA 0), (2, vA 123), (3, vI ((i : Nat) : Int))] [vI (-1000000001)] (mk h τ)
      refine a_aload_n (j := 2) dL_law_453 rfl rfl (Nat.le_of_ble_eq_true rfl) ?_
      refine a_aload_n (j := 0) dL_law_454 rfl rfl (Nat.le_of_ble_eq_true rfl) ?_
      refine a_iload_n (j := 3) dL_law_455 rfl rfl ?_
      refine a_iconst dL_law_456 ⟨by decide, by decide⟩ ?_
      refine a_iadd (z := (((i : Nat) : Int) + 1)) dL_law_457 (w_ok (by omega) (by omega)) ?_
      refine a_sld (i + 1) dL_law_458 (by omega) (by omega) ?_
      rw [ha1]
      refine a_aload_n (j := 0) dL_law_459 rfl rfl (Nat.le_of_ble_eq_true rfl) ?_
      refine a_iload_n (j := 3) dL_law_460 rfl rfl ?_
      refine a_iconst dL_law_461 ⟨by decide, by decide⟩ ?_
      refine a_iadd (z := (((i : Nat) : Int) + 2)) dL_law_462 (w_ok (by omega) (by omega)) ?_
      refine a_sld (i + 2) dL_law_463 (by omega) (by omega) ?_
      rw [ha2]
      refine a_aload_n (j := 0) dL_law_464 rfl rfl (Nat.le_of_ble_eq_true rfl) ?_
      refine a_iload_n (j := 3) dL_law_465 rfl rfl ?_
      refine a_iconst dL_law_466 ⟨by decide, by decide⟩ ?_
      refine a_iadd (z := (((i : Nat) : Int) + 3)) dL_law_467 (w_ok (by omega) (by omega)) ?_
      refine a_sld (i + 3) dL_law_468 (by omega) (by omega) ?_
      rw [ha3]
      refine b_callV (d' := d - 1) (mc' := 0) (ms' := 0) (mc1 := mc) (ms1 := ms) (st := [vI (-1000000001)]) (b := 123) [vI ((t0 : Nat) : Int), vI a2, vI a3] dL_law_469 mwX9_set lkL_44 (by decide) rfl rc_X9 rfl (Nat.le_of_ble_eq_true rfl) (by omega) (by omega) (by omega) (c_X9_set (v1 := (N 5)) (v2 := (N (19 + 11 * t0))) (v3 := (N (18 + 11 * t0))) (v4 := (N (20 + 11 * t0))) (by omega)  (congrFun hN _) ((congrArg (h 124) (show (Int.toNat ((15 + (11 * ((t0 : Nat) : Int))) + 4)) = (19 + 11 * t0) by omega)).trans (congrFun hN _)) ((congrArg (h 124) (show (Int.toNat ((15 + (11 * ((t0 : Nat) : Int))) + 3)) = (18 + 11 * t0) by omega)).trans (congrFun hN _)) ((congrArg (h 124) (show (Int.toNat ((15 + (11 * ((t0 : Nat) : Int))) + 5)) = (20 + 11 * t0) by omega)).trans (congrFun hN _)) (show 0 ≤ (N 5) ∧ (N 5) ≤ 12 by omega) (fun t2_1_16 t11_2_16 c20_3_16 c29_4_16 c40_5_16 t52_6_16 c64_7_16 c73_8_16 => ?_) (fun t2_1_16 t11_2_16 c20_3_16 c29_4_16 c40_5_16 t52_6_16 => ?_) (fun t2_1_16 t11_2_16 c20_3_16 c29_4_16 c40_5_16 t52_9_16 c64_10_16 c73_11_16 => ?_) (fun t2_1_16 t11_2_16 c20_3_16 c29_4_16 c40_5_16 t52_9_16 => ?_) (fun t2_1_16 t11_2_16 c20_3_16 c29_4_16 t52_12_16 c64_13_16 => ?_) (fun t2_1_16 t11_2_16 c20_3_16 c29_4_16 t52_12_16 => ?_) (fun t2_1_16 t11_2_16 c20_3_16 c29_14_16 c40_15_16 t52_16_16 c64_17_16 c73_18_16 => ?_) (fun t2_1_16 t11_2_16 c20_3_16 c29_14_16 c40_15_16 t52_16_16 => ?_) (fun t2_1_16 t11_2_16 => ?_) (fun t2_1_16 => ?_))
      · exfalso
        omega
      · exfalso
        omega
      · exfalso
        omega
      · have t2_1_16 : 0 ≤ ((t0 : Nat) : Int) ∧ ((t0 : Nat) : Int) < (N 5) := t2_1_16
        have t11_2_16 : 0 ≤ a2 ∧ a2 ≤ 2 := t11_2_16
        have c20_3_16 : ¬ a2 = 2 := c20_3_16
        have c29_4_16 : ¬ a2 = 0 := c29_4_16
        have c40_5_16 : a2 = 1 := c40_5_16
        have t52_9_16 : ¬ (0 ≤ a3 ∧ a3 ≤ 1439) := t52_9_16
        show Aj γ mL_law d mc ms Post 472 [(0, vK 0), (1, vA 0), (2, vA 123), (3, vI ((i : Nat) : Int))] [vI (-1000000001), vI (-1000000001)] (mk h τ)
        refine a_icmp_eq (tgt := 1668) dL_law_472 (by decide) (fun _ => ?_) (fun c => absurd c (by decide))
        exact kE h N J (IV_up (by omega) hI)
      · exfalso
        omega
      · exfalso
        omega
      · exfalso
        omega
      · exfalso
        omega
      · have t2_1_16 : 0 ≤ ((t0 : Nat) : Int) ∧ ((t0 : Nat) : Int) < (N 5) := t2_1_16
        have t11_2_16 : ¬ (0 ≤ a2 ∧ a2 ≤ 2) := t11_2_16
        show Aj γ mL_law d mc ms Post 472 [(0, vK 0), (1, vA 0), (2, vA 123), (3, vI ((i : Nat) : Int))] [vI (-1000000001), vI (-1000000001)] (mk h τ)
        refine a_icmp_eq (tgt := 1668) dL_law_472 (by decide) (fun _ => ?_) (fun c => absurd c (by decide))
        exact kE h N J (IV_up (by omega) hI)
      · exfalso
        omega
    · have t5_1_1 : 0 ≤ ((t0 : Nat) : Int) ∧ ((t0 : Nat) : Int) < (N 5) := t5_1_1
      have c26_2_1 : a2 = 0 := c26_2_1
      have t34_8_1 : 0 ≤ a3 ∧ a3 ≤ 999 := t34_8_1
      show Aj γ mL_law d mc ms Post 453 [(0, vK 0), (1, vA 0), (2, vA 123), (3, vI ((i : Nat) : Int))] [vI (N (20 + 11 * t0))] (mk (up2 (up2 (up2 h (8 + 2 * t0) 5 a3) 0 3 ((h 0 3) + 1)) 1 0 ((h 0 3) + 1)) τ)
      refine a_aload_n (j := 2) dL_law_453 rfl rfl (Nat.le_of_ble_eq_true rfl) ?_
      refine a_aload_n (j := 0) dL_law_454 rfl rfl (Nat.le_of_ble_eq_true rfl) ?_
      refine a_iload_n (j := 3) dL_law_455 rfl rfl ?_
      refine a_iconst dL_law_456 ⟨by decide, by decide⟩ ?_
      refine a_iadd (z := (((i : Nat) : Int) + 1)) dL_law_457 (w_ok (by omega) (by omega)) ?_
      refine a_sld (i + 1) dL_law_458 (by omega) (by omega) ?_
      rw [ha1]
      refine a_aload_n (j := 0) dL_law_459 rfl rfl (Nat.le_of_ble_eq_true rfl) ?_
      refine a_iload_n (j := 3) dL_law_460 rfl rfl ?_
      refine a_iconst dL_law_461 ⟨by decide, by decide⟩ ?_
      refine a_iadd (z := (((i : Nat) : Int) + 2)) dL_law_462 (w_ok (by omega) (by omega)) ?_
      refine a_sld (i + 2) dL_law_463 (by omega) (by omega) ?_
      rw [ha2]
      refine a_aload_n (j := 0) dL_law_464 rfl rfl (Nat.le_of_ble_eq_true rfl) ?_
      refine a_iload_n (j := 3) dL_law_465 rfl rfl ?_
      refine a_iconst dL_law_466 ⟨by decide, by decide⟩ ?_
      refine a_iadd (z := (((i : Nat) : Int) + 3)) dL_law_467 (w_ok (by omega) (by omega)) ?_
      refine a_sld (i + 3) dL_law_468 (by omega) (by omega) ?_
      rw [ha3]
      refine b_callV (d' := d - 1) (mc' := 0) (ms' := 0) (mc1 := mc) (ms1 := ms) (st := [vI (N (20 + 11 * t0))]) (b := 123) [vI ((t0 : Nat) : Int), vI a2, vI a3] dL_law_469 mwX9_set lkL_44 (by decide) rfl rc_X9 rfl (Nat.le_of_ble_eq_true rfl) (by omega) (by omega) (by omega) (c_X9_set (v1 := (N 5)) (v2 := (N (19 + 11 * t0))) (v3 := (N (18 + 11 * t0))) (v4 := (N (20 + 11 * t0))) (by omega)  ((up2_ne (by omega)).trans ((up2_ne (by omega)).trans ((up2_ne (by omega)).trans (congrFun hN _)))) ((up2_ne (by omega)).trans ((up2_ne (by omega)).trans ((up2_ne (by omega)).trans ((congrArg (h 124) (show (Int.toNat ((15 + (11 * ((t0 : Nat) : Int))) + 4)) = (19 + 11 * t0) by omega)).trans (congrFun hN _))))) ((up2_ne (by omega)).trans ((up2_ne (by omega)).trans ((up2_ne (by omega)).trans ((congrArg (h 124) (show (Int.toNat ((15 + (11 * ((t0 : Nat) : Int))) + 3)) = (18 + 11 * t0) by omega)).trans (congrFun hN _))))) ((up2_ne (by omega)).trans ((up2_ne (by omega)).trans ((up2_ne (by omega)).trans ((congrArg (h 124) (show (Int.toNat ((15 + (11 * ((t0 : Nat) : Int))) + 5)) = (20 + 11 * t0) by omega)).trans (congrFun hN _))))) (show 0 ≤ (N 5) ∧ (N 5) ≤ 12 by omega) (fun t2_1_18 t11_2_18 c20_3_18 c29_4_18 c40_5_18 t52_6_18 c64_7_18 c73_8_18 => ?_) (fun t2_1_18 t11_2_18 c20_3_18 c29_4_18 c40_5_18 t52_6_18 => ?_) (fun t2_1_18 t11_2_18 c20_3_18 c29_4_18 c40_5_18 t52_9_18 c64_10_18 c73_11_18 => ?_) (fun t2_1_18 t11_2_18 c20_3_18 c29_4_18 c40_5_18 t52_9_18 => ?_) (fun t2_1_18 t11_2_18 c20_3_18 c29_4_18 t52_12_18 c64_13_18 => ?_) (fun t2_1_18 t11_2_18 c20_3_18 c29_4_18 t52_12_18 => ?_) (fun t2_1_18 t11_2_18 c20_3_18 c29_14_18 c40_15_18 t52_16_18 c64_17_18 c73_18_18 => ?_) (fun t2_1_18 t11_2_18 c20_3_18 c29_14_18 c40_15_18 t52_16_18 => ?_) (fun t2_1_18 t11_2_18 => ?_) (fun t2_1_18 => ?_))
      · exfalso
        omega
      · exfalso
        omega
      · exfalso
        omega
      · exfalso
        omega
      · have t2_1_18 : 0 ≤ ((t0 : Nat) : Int) ∧ ((t0 : Nat) : Int) < (N 5) := t2_1_18
        have t11_2_18 : 0 ≤ a2 ∧ a2 ≤ 2 := t11_2_18
        have c20_3_18 : ¬ a2 = 2 := c20_3_18
        have c29_4_18 : a2 = 0 := c29_4_18
        have t52_12_18 : 0 ≤ a3 ∧ a3 ≤ 999 := t52_12_18
        have c64_13_18 : a2 = 0 := c64_13_18
        show Aj γ mL_law d mc ms Post 472 [(0, vK 0), (1, vA 0), (2, vA 123), (3, vI ((i : Nat) : Int))] [vI (N (20 + 11 * t0)), vI (N (20 + 11 * t0))] (mk (up2 (up2 (up2 (up2 (up2 h (8 + 2 * t0) 5 a3) 0 3 ((h 0 3) + 1)) 1 0 ((h 0 3) + 1)) 124 (Int.toNat ((15 + (11 * ((t0 : Nat) : Int))) + 5)) a3) 123 4 0) τ)
        refine a_icmp_eq (tgt := 1668) dL_law_472 (by decide) (fun c472_20 => ?_) (fun c472_20 => ?_)
        · generalize hHH : (up2 (up2 (up2 (up2 (up2 h (8 + 2 * t0) 5 a3) 0 3 ((h 0 3) + 1)) 1 0 ((h 0 3) + 1)) 124 (Int.toNat ((15 + (11 * ((t0 : Nat) : Int))) + 5)) a3) 123 4 0) = H
          have c0_ : H (8 + 2 * t0) 0 = h (8 + 2 * t0) 0 := by rw [← hHH]; exact ((up2_ne (by omega)).trans ((up2_ne (by omega)).trans ((up2_ne (by omega)).trans ((up2_ne (by omega)).trans ((up2_ne (by omega)).trans rfl)))))
          have f15_ : H 124 (15 + 11 * t0) = N (15 + 11 * t0) := by rw [← hHH]; exact ((up2_ne (by omega)).trans ((up2_ne (by omega)).trans ((up2_ne (by omega)).trans ((up2_ne (by omega)).trans ((up2_ne (by omega)).trans (congrFun hN _))))))
          have c1_ : H (8 + 2 * t0) 1 = h (8 + 2 * t0) 1 := by rw [← hHH]; exact ((up2_ne (by omega)).trans ((up2_ne (by omega)).trans ((up2_ne (by omega)).trans ((up2_ne (by omega)).trans ((up2_ne (by omega)).trans rfl)))))
          have f16_ : H 124 (16 + 11 * t0) = N (16 + 11 * t0) := by rw [← hHH]; exact ((up2_ne (by omega)).trans ((up2_ne (by omega)).trans ((up2_ne (by omega)).trans ((up2_ne (by omega)).trans ((up2_ne (by omega)).trans (congrFun hN _))))))
          have c2_ : H (8 + 2 * t0) 2 = h (8 + 2 * t0) 2 := by rw [← hHH]; exact ((up2_ne (by omega)).trans ((up2_ne (by omega)).trans ((up2_ne (by omega)).trans ((up2_ne (by omega)).trans ((up2_ne (by omega)).trans rfl)))))
          have f17_ : H 124 (17 + 11 * t0) = N (17 + 11 * t0) := by rw [← hHH]; exact ((up2_ne (by omega)).trans ((up2_ne (by omega)).trans ((up2_ne (by omega)).trans ((up2_ne (by omega)).trans ((up2_ne (by omega)).trans (congrFun hN _))))))
          have c3_ : H (8 + 2 * t0) 3 = h (8 + 2 * t0) 3 := by rw [← hHH]; exact ((up2_ne (by omega)).trans ((up2_ne (by omega)).trans ((up2_ne (by omega)).trans ((up2_ne (by omega)).trans ((up2_ne (by omega)).trans rfl)))))
          have f18_ : H 124 (18 + 11 * t0) = N (18 + 11 * t0) := by rw [← hHH]; exact ((up2_ne (by omega)).trans ((up2_ne (by omega)).trans ((up2_ne (by omega)).trans ((up2_ne (by omega)).trans ((up2_ne (by omega)).trans (congrFun hN _))))))
          have c4_ : H (8 + 2 * t0) 4 = h (8 + 2 * t0) 4 := by rw [← hHH]; exact ((up2_ne (by omega)).trans ((up2_ne (by omega)).trans ((up2_ne (by omega)).trans ((up2_ne (by omega)).trans ((up2_ne (by omega)).trans rfl)))))
          have f19_ : H 124 (19 + 11 * t0) = N (19 + 11 * t0) := by rw [← hHH]; exact ((up2_ne (by omega)).trans ((up2_ne (by omega)).trans ((up2_ne (by omega)).trans ((up2_ne (by omega)).trans ((up2_ne (by omega)).trans (congrFun hN _))))))
          have c5_ : H (8 + 2 * t0) 5 = a3 := by rw [← hHH]; exact ((up2_ne (by omega)).trans ((up2_ne (by omega)).trans ((up2_ne (by omega)).trans ((up2_ne (by omega)).trans (up2_hit (by omega) (by omega))))))
          have f20_ : H 124 (20 + 11 * t0) = a3 := by rw [← hHH]; exact ((up2_ne (by omega)).trans (up2_hit (by omega) (by omega)))
          have c6_ : H (8 + 2 * t0) 6 = h (8 + 2 * t0) 6 := by rw [← hHH]; exact ((up2_ne (by omega)).trans ((up2_ne (by omega)).trans ((up2_ne (by omega)).trans ((up2_ne (by omega)).trans ((up2_ne (by omega)).trans rfl)))))
          have f21_ : H 124 (21 + 11 * t0) = N (21 + 11 * t0) := by rw [← hHH]; exact ((up2_ne (by omega)).trans ((up2_ne (by omega)).trans ((up2_ne (by omega)).trans ((up2_ne (by omega)).trans ((up2_ne (by omega)).trans (congrFun hN _))))))
          have f4_ : H 124 4 = N 4 := by rw [← hHH]; exact ((up2_ne (by omega)).trans ((up2_ne (by omega)).trans ((up2_ne (by omega)).trans ((up2_ne (by omega)).trans ((up2_ne (by omega)).trans (congrFun hN _))))))
          have e0_ : H ((8 + 2 * t0) + 1) 0 = h ((8 + 2 * t0) + 1) 0 := by rw [← hHH]; exact ((up2_ne (by omega)).trans ((up2_ne (by omega)).trans ((up2_ne (by omega)).trans ((up2_ne (by omega)).trans ((up2_ne (by omega)).trans rfl)))))
          have g0_ : H 124 (22 + 11 * t0 + 0) = N (22 + 11 * t0 + 0) := by rw [← hHH]; exact ((up2_ne (by omega)).trans ((up2_ne (by omega)).trans ((up2_ne (by omega)).trans ((up2_ne (by omega)).trans ((up2_ne (by omega)).trans (congrFun hN _))))))
          have e1_ : H ((8 + 2 * t0) + 1) 1 = h ((8 + 2 * t0) + 1) 1 := by rw [← hHH]; exact ((up2_ne (by omega)).trans ((up2_ne (by omega)).trans ((up2_ne (by omega)).trans ((up2_ne (by omega)).trans ((up2_ne (by omega)).trans rfl)))))
          have g1_ : H 124 (22 + 11 * t0 + 1) = N (22 + 11 * t0 + 1) := by rw [← hHH]; exact ((up2_ne (by omega)).trans ((up2_ne (by omega)).trans ((up2_ne (by omega)).trans ((up2_ne (by omega)).trans ((up2_ne (by omega)).trans (congrFun hN _))))))
          have e2_ : H ((8 + 2 * t0) + 1) 2 = h ((8 + 2 * t0) + 1) 2 := by rw [← hHH]; exact ((up2_ne (by omega)).trans ((up2_ne (by omega)).trans ((up2_ne (by omega)).trans ((up2_ne (by omega)).trans ((up2_ne (by omega)).trans rfl)))))
          have g2_ : H 124 (22 + 11 * t0 + 2) = N (22 + 11 * t0 + 2) := by rw [← hHH]; exact ((up2_ne (by omega)).trans ((up2_ne (by omega)).trans ((up2_ne (by omega)).trans ((up2_ne (by omega)).trans ((up2_ne (by omega)).trans (congrFun hN _))))))
          have e3_ : H ((8 + 2 * t0) + 1) 3 = h ((8 + 2 * t0) + 1) 3 := by rw [← hHH]; exact ((up2_ne (by omega)).trans ((up2_ne (by omega)).trans ((up2_ne (by omega)).trans ((up2_ne (by omega)).trans ((up2_ne (by omega)).trans rfl)))))
          have g3_ : H 124 (22 + 11 * t0 + 3) = N (22 + 11 * t0 + 3) := by rw [← hHH]; exact ((up2_ne (by omega)).trans ((up2_ne (by omega)).trans ((up2_ne (by omega)).trans ((up2_ne (by omega)).trans ((up2_ne (by omega)).trans (congrFun hN _))))))
          have f22_ : H 124 (22 + 11 * t0) = N (22 + 11 * t0) := by rw [← hHH]; exact ((up2_ne (by omega)).trans ((up2_ne (by omega)).trans ((up2_ne (by omega)).trans ((up2_ne (by omega)).trans ((up2_ne (by omega)).trans (congrFun hN _))))))
          have hb0 := hX.1.2.2.1 t0 (by omega)
          unfold trR at hb0
          have hw0 := hR.2.2.1 t0 (by omega)
          unfold trW at hw0
          have hr : trR (H 124) t0 := by unfold trR; rw [f4_, f15_, f16_, f17_, f18_, f19_, f20_, f21_, f22_, g1_, g2_, g3_]; omega
          have hw : trW H (8 + 2 * t0) (H 124) t0 := ⟨c0_.trans (hw0.1.trans f15_.symm), c1_.trans (hw0.2.1.trans f16_.symm), c2_.trans (hw0.2.2.1.trans f17_.symm), c3_.trans (hw0.2.2.2.1.trans f18_.symm), c4_.trans (hw0.2.2.2.2.1.trans f19_.symm), (by rw [c5_, f20_] <;> omega), c6_.trans (hw0.2.2.2.2.2.2.1.trans (congrArg hsF f21_.symm)), fun s hs => by
            rcases (show s = 0 ∨ s = 1 ∨ s = 2 ∨ s = 3 by omega) with rfl | rfl | rfl | rfl
            · exact e0_.trans ((hw0.2.2.2.2.2.2.2 0 (by decide)).trans g0_.symm)
            · exact e1_.trans ((hw0.2.2.2.2.2.2.2 1 (by decide)).trans g1_.symm)
            · exact e2_.trans ((hw0.2.2.2.2.2.2.2 2 (by decide)).trans g2_.symm)
            · exact e3_.trans ((hw0.2.2.2.2.2.2.2 3 (by decide)).trans g3_.symm)⟩
          have a1_ : ∀ k : Nat, k ≠ 0 → H 1 k = h 1 k := fun k q0_ => by rw [← hHH]; exact ((up2_ne (by omega)).trans ((up2_ne (by omega)).trans ((up2_ne (by omega)).trans ((up2_ne (by omega)).trans ((up2_ne (by omega)).trans rfl)))))
          have a5_ : ∀ c, 2 ≤ c → c < 32 → c ≠ 8 + 2 * t0 → c ≠ 8 + 2 * t0 + 1 → H c = h c := fun c q0_ q1_ q2_ q3_ => by rw [← hHH]; exact ((up2_row (by omega)).trans ((up2_row (by omega)).trans ((up2_row (by omega)).trans ((up2_row (by omega)).trans ((up2_row (by omega)).trans rfl)))))
          have n3_ : ∀ k : Nat, (k < 15 + 11 * t0 ∨ 15 + 11 * t0 + 11 ≤ k) → H 124 k = N k := fun k q0_ => by rw [← hHH]; exact ((up2_ne (by omega)).trans ((up2_ne (by omega)).trans ((up2_ne (by omega)).trans ((up2_ne (by omega)).trans ((up2_ne (by omega)).trans (congrFun hN _))))))
          have hW := W_tr (h := h) (h' := H) (t0 := t0) hX hR (by omega) a1_ a5_ n3_ hr hw
          have gF : ∀ c, ¬ inW c → H c = h c := fun c q0_ => by unfold inW at q0_; rw [← hHH]; exact ((up2_row (by omega)).trans ((up2_row (by omega)).trans ((up2_row (by omega)).trans ((up2_row (by omega)).trans ((up2_row (by omega)).trans rfl)))))
          have g0 : ∀ k : Nat, k ≠ 3 → H 0 k = h 0 k := fun k q0_ => by rw [← hHH]; exact ((up2_ne (by omega)).trans ((up2_ne (by omega)).trans ((up2_ne (by omega)).trans ((up2_ne (by omega)).trans ((up2_ne (by omega)).trans rfl)))))
          have e03 : H 0 3 = ((h 0 3) + 1) := by rw [← hHH]; exact ((up2_ne (by omega)).trans ((up2_ne (by omega)).trans ((up2_ne (by omega)).trans (up2_hit (by omega) (by omega)))))
          have e10 : H 1 0 = ((h 0 3) + 1) := by rw [← hHH]; exact ((up2_ne (by omega)).trans ((up2_ne (by omega)).trans (up2_hit (by omega) (by omega))))
          have g3 : ∀ k : Nat, k ≠ 4 → H 123 k = h 123 k := fun k q0_ => by rw [← hHH]; exact ((up2_ne (by omega)).trans ((up2_ne (by omega)).trans ((up2_ne (by omega)).trans ((up2_ne (by omega)).trans ((up2_ne (by omega)).trans rfl)))))
          have e4 : H 123 4 = 0 := by rw [← hHH]; exact (up2_hit (by omega) (by omega))
          exact kE H (H 124) J (IV_s hI gF g0 e03 e10 g3 e4 rfl hW.1 hW.2)
        · refine a_iconst dL_law_475 ⟨by decide, by decide⟩ ?_
          exact a_zret dL_law_476 rfl (by first | exact Or.inl rfl | exact Or.inr rfl | omega) (by exfalso; omega)
      · exfalso
        omega
      · exfalso
        omega
      · exfalso
        omega
      · have t2_1_18 : 0 ≤ ((t0 : Nat) : Int) ∧ ((t0 : Nat) : Int) < (N 5) := t2_1_18
        have t11_2_18 : ¬ (0 ≤ a2 ∧ a2 ≤ 2) := t11_2_18
        show Aj γ mL_law d mc ms Post 472 [(0, vK 0), (1, vA 0), (2, vA 123), (3, vI ((i : Nat) : Int))] [vI (-1000000001), vI (N (20 + 11 * t0))] (mk (up2 (up2 (up2 h (8 + 2 * t0) 5 a3) 0 3 ((h 0 3) + 1)) 1 0 ((h 0 3) + 1)) τ)
        refine a_icmp_eq (tgt := 1668) dL_law_472 (by decide) (fun c472_21 => ?_) (fun c472_21 => ?_)
        · exfalso
          omega
        · refine a_iconst dL_law_475 ⟨by decide, by decide⟩ ?_
          exact a_zret dL_law_476 rfl (by first | exact Or.inl rfl | exact Or.inr rfl | omega) (by exfalso; omega)
      · exfalso
        omega
    · have t5_1_1 : 0 ≤ ((t0 : Nat) : Int) ∧ ((t0 : Nat) : Int) < (N 5) := t5_1_1
      have c26_2_1 : a2 = 0 := c26_2_1
      have t34_8_1 : ¬ (0 ≤ a3 ∧ a3 ≤ 999) := t34_8_1
      have c58_9_1 : ¬ a2 = 1 := c58_9_1
      have c86_10_1 : ¬ a2 = 2 := c86_10_1
      show Aj γ mL_law d mc ms Post 453 [(0, vK 0), (1, vA 0), (2, vA 123), (3, vI ((i : Nat) : Int))] [vI (-1000000001)] (mk h τ)
      refine a_aload_n (j := 2) dL_law_453 rfl rfl (Nat.le_of_ble_eq_true rfl) ?_
      refine a_aload_n (j := 0) dL_law_454 rfl rfl (Nat.le_of_ble_eq_true rfl) ?_
      refine a_iload_n (j := 3) dL_law_455 rfl rfl ?_
      refine a_iconst dL_law_456 ⟨by decide, by decide⟩ ?_
      refine a_iadd (z := (((i : Nat) : Int) + 1)) dL_law_457 (w_ok (by omega) (by omega)) ?_
      refine a_sld (i + 1) dL_law_458 (by omega) (by omega) ?_
      rw [ha1]
      refine a_aload_n (j := 0) dL_law_459 rfl rfl (Nat.le_of_ble_eq_true rfl) ?_
      refine a_iload_n (j := 3) dL_law_460 rfl rfl ?_
      refine a_iconst dL_law_461 ⟨by decide, by decide⟩ ?_
      refine a_iadd (z := (((i : Nat) : Int) + 2)) dL_law_462 (w_ok (by omega) (by omega)) ?_
      refine a_sld (i + 2) dL_law_463 (by omega) (by omega) ?_
      rw [ha2]
      refine a_aload_n (j := 0) dL_law_464 rfl rfl (Nat.le_of_ble_eq_true rfl) ?_
      refine a_iload_n (j := 3) dL_law_465 rfl rfl ?_
      refine a_iconst dL_law_466 ⟨by decide, by decide⟩ ?_
      refine a_iadd (z := (((i : Nat) : Int) + 3)) dL_law_467 (w_ok (by omega) (by omega)) ?_
      refine a_sld (i + 3) dL_law_468 (by omega) (by omega) ?_
      rw [ha3]
      refine b_callV (d' := d - 1) (mc' := 0) (ms' := 0) (mc1 := mc) (ms1 := ms) (st := [vI (-1000000001)]) (b := 123) [vI ((t0 : Nat) : Int), vI a2, vI a3] dL_law_469 mwX9_set lkL_44 (by decide) rfl rc_X9 rfl (Nat.le_of_ble_eq_true rfl) (by omega) (by omega) (by omega) (c_X9_set (v1 := (N 5)) (v2 := (N (19 + 11 * t0))) (v3 := (N (18 + 11 * t0))) (v4 := (N (20 + 11 * t0))) (by omega)  (congrFun hN _) ((congrArg (h 124) (show (Int.toNat ((15 + (11 * ((t0 : Nat) : Int))) + 4)) = (19 + 11 * t0) by omega)).trans (congrFun hN _)) ((congrArg (h 124) (show (Int.toNat ((15 + (11 * ((t0 : Nat) : Int))) + 3)) = (18 + 11 * t0) by omega)).trans (congrFun hN _)) ((congrArg (h 124) (show (Int.toNat ((15 + (11 * ((t0 : Nat) : Int))) + 5)) = (20 + 11 * t0) by omega)).trans (congrFun hN _)) (show 0 ≤ (N 5) ∧ (N 5) ≤ 12 by omega) (fun t2_1_22 t11_2_22 c20_3_22 c29_4_22 c40_5_22 t52_6_22 c64_7_22 c73_8_22 => ?_) (fun t2_1_22 t11_2_22 c20_3_22 c29_4_22 c40_5_22 t52_6_22 => ?_) (fun t2_1_22 t11_2_22 c20_3_22 c29_4_22 c40_5_22 t52_9_22 c64_10_22 c73_11_22 => ?_) (fun t2_1_22 t11_2_22 c20_3_22 c29_4_22 c40_5_22 t52_9_22 => ?_) (fun t2_1_22 t11_2_22 c20_3_22 c29_4_22 t52_12_22 c64_13_22 => ?_) (fun t2_1_22 t11_2_22 c20_3_22 c29_4_22 t52_12_22 => ?_) (fun t2_1_22 t11_2_22 c20_3_22 c29_14_22 c40_15_22 t52_16_22 c64_17_22 c73_18_22 => ?_) (fun t2_1_22 t11_2_22 c20_3_22 c29_14_22 c40_15_22 t52_16_22 => ?_) (fun t2_1_22 t11_2_22 => ?_) (fun t2_1_22 => ?_))
      · exfalso
        omega
      · exfalso
        omega
      · exfalso
        omega
      · exfalso
        omega
      · exfalso
        omega
      · have t2_1_22 : 0 ≤ ((t0 : Nat) : Int) ∧ ((t0 : Nat) : Int) < (N 5) := t2_1_22
        have t11_2_22 : 0 ≤ a2 ∧ a2 ≤ 2 := t11_2_22
        have c20_3_22 : ¬ a2 = 2 := c20_3_22
        have c29_4_22 : a2 = 0 := c29_4_22
        have t52_12_22 : ¬ (0 ≤ a3 ∧ a3 ≤ 999) := t52_12_22
        show Aj γ mL_law d mc ms Post 472 [(0, vK 0), (1, vA 0), (2, vA 123), (3, vI ((i : Nat) : Int))] [vI (-1000000001), vI (-1000000001)] (mk h τ)
        refine a_icmp_eq (tgt := 1668) dL_law_472 (by decide) (fun _ => ?_) (fun c => absurd c (by decide))
        exact kE h N J (IV_up (by omega) hI)
      · exfalso
        omega
      · exfalso
        omega
      · have t2_1_22 : 0 ≤ ((t0 : Nat) : Int) ∧ ((t0 : Nat) : Int) < (N 5) := t2_1_22
        have t11_2_22 : ¬ (0 ≤ a2 ∧ a2 ≤ 2) := t11_2_22
        show Aj γ mL_law d mc ms Post 472 [(0, vK 0), (1, vA 0), (2, vA 123), (3, vI ((i : Nat) : Int))] [vI (-1000000001), vI (-1000000001)] (mk h τ)
        refine a_icmp_eq (tgt := 1668) dL_law_472 (by decide) (fun _ => ?_) (fun c => absurd c (by decide))
        exact kE h N J (IV_up (by omega) hI)
      · exfalso
        omega
    · have t5_1_1 : ¬ (0 ≤ ((t0 : Nat) : Int) ∧ ((t0 : Nat) : Int) < (N 5)) := t5_1_1
      show Aj γ mL_law d mc ms Post 453 [(0, vK 0), (1, vA 0), (2, vA 123), (3, vI ((i : Nat) : Int))] [vI (-1000000001)] (mk h τ)
      refine a_aload_n (j := 2) dL_law_453 rfl rfl (Nat.le_of_ble_eq_true rfl) ?_
      refine a_aload_n (j := 0) dL_law_454 rfl rfl (Nat.le_of_ble_eq_true rfl) ?_
      refine a_iload_n (j := 3) dL_law_455 rfl rfl ?_
      refine a_iconst dL_law_456 ⟨by decide, by decide⟩ ?_
      refine a_iadd (z := (((i : Nat) : Int) + 1)) dL_law_457 (w_ok (by omega) (by omega)) ?_
      refine a_sld (i + 1) dL_law_458 (by omega) (by omega) ?_
      rw [ha1]
      refine a_aload_n (j := 0) dL_law_459 rfl rfl (Nat.le_of_ble_eq_true rfl) ?_
      refine a_iload_n (j := 3) dL_law_460 rfl rfl ?_
      refine a_iconst dL_law_461 ⟨by decide, by decide⟩ ?_
      refine a_iadd (z := (((i : Nat) : Int) + 2)) dL_law_462 (w_ok (by omega) (by omega)) ?_
      refine a_sld (i + 2) dL_law_463 (by omega) (by omega) ?_
      rw [ha2]
      refine a_aload_n (j := 0) dL_law_464 rfl rfl (Nat.le_of_ble_eq_true rfl) ?_
      refine a_iload_n (j := 3) dL_law_465 rfl rfl ?_
      refine a_iconst dL_law_466 ⟨by decide, by decide⟩ ?_
      refine a_iadd (z := (((i : Nat) : Int) + 3)) dL_law_467 (w_ok (by omega) (by omega)) ?_
      refine a_sld (i + 3) dL_law_468 (by omega) (by omega) ?_
      rw [ha3]
      refine b_callV (d' := d - 1) (mc' := 0) (ms' := 0) (mc1 := mc) (ms1 := ms) (st := [vI (-1000000001)]) (b := 123) [vI ((t0 : Nat) : Int), vI a2, vI a3] dL_law_469 mwX9_set lkL_44 (by decide) rfl rc_X9 rfl (Nat.le_of_ble_eq_true rfl) (by omega) (by omega) (by omega) (c_X9_set (v1 := (N 5)) (v2 := (N (19 + 11 * t0))) (v3 := (N (18 + 11 * t0))) (v4 := (N (20 + 11 * t0))) (by omega)  (congrFun hN _) ((congrArg (h 124) (show (Int.toNat ((15 + (11 * ((t0 : Nat) : Int))) + 4)) = (19 + 11 * t0) by omega)).trans (congrFun hN _)) ((congrArg (h 124) (show (Int.toNat ((15 + (11 * ((t0 : Nat) : Int))) + 3)) = (18 + 11 * t0) by omega)).trans (congrFun hN _)) ((congrArg (h 124) (show (Int.toNat ((15 + (11 * ((t0 : Nat) : Int))) + 5)) = (20 + 11 * t0) by omega)).trans (congrFun hN _)) (show 0 ≤ (N 5) ∧ (N 5) ≤ 12 by omega) (fun t2_1_24 t11_2_24 c20_3_24 c29_4_24 c40_5_24 t52_6_24 c64_7_24 c73_8_24 => ?_) (fun t2_1_24 t11_2_24 c20_3_24 c29_4_24 c40_5_24 t52_6_24 => ?_) (fun t2_1_24 t11_2_24 c20_3_24 c29_4_24 c40_5_24 t52_9_24 c64_10_24 c73_11_24 => ?_) (fun t2_1_24 t11_2_24 c20_3_24 c29_4_24 c40_5_24 t52_9_24 => ?_) (fun t2_1_24 t11_2_24 c20_3_24 c29_4_24 t52_12_24 c64_13_24 => ?_) (fun t2_1_24 t11_2_24 c20_3_24 c29_4_24 t52_12_24 => ?_) (fun t2_1_24 t11_2_24 c20_3_24 c29_14_24 c40_15_24 t52_16_24 c64_17_24 c73_18_24 => ?_) (fun t2_1_24 t11_2_24 c20_3_24 c29_14_24 c40_15_24 t52_16_24 => ?_) (fun t2_1_24 t11_2_24 => ?_) (fun t2_1_24 => ?_))
      · exfalso
        omega
      · exfalso
        omega
      · exfalso
        omega
      · exfalso
        omega
      · exfalso
        omega
      · exfalso
        omega
      · exfalso
        omega
      · exfalso
        omega
      · exfalso
        omega
      · have t2_1_24 : ¬ (0 ≤ ((t0 : Nat) : Int) ∧ ((t0 : Nat) : Int) < (N 5)) := t2_1_24
        show Aj γ mL_law d mc ms Post 472 [(0, vK 0), (1, vA 0), (2, vA 123), (3, vI ((i : Nat) : Int))] [vI (-1000000001), vI (-1000000001)] (mk h τ)
        refine a_icmp_eq (tgt := 1668) dL_law_472 (by decide) (fun _ => ?_) (fun c => absurd c (by decide))
        exact kE h N J (IV_up (by omega) hI)
  · skip
    refine a_aload_n (j := 1) dL_law_434 rfl rfl (Nat.le_of_ble_eq_true rfl) ?_
    refine a_aload_n (j := 0) dL_law_435 rfl rfl (Nat.le_of_ble_eq_true rfl) ?_
    refine a_iload_n (j := 3) dL_law_436 rfl rfl ?_
    refine a_iconst dL_law_437 ⟨by decide, by decide⟩ ?_
    refine a_iadd (z := (((i : Nat) : Int) + 1)) dL_law_438 (w_ok (by omega) (by omega)) ?_
    refine a_sld (i + 1) dL_law_439 (by omega) (by omega) ?_
    rw [ha1]
    refine a_aload_n (j := 0) dL_law_440 rfl rfl (Nat.le_of_ble_eq_true rfl) ?_
    refine a_iload_n (j := 3) dL_law_441 rfl rfl ?_
    refine a_iconst dL_law_442 ⟨by decide, by decide⟩ ?_
    refine a_iadd (z := (((i : Nat) : Int) + 2)) dL_law_443 (w_ok (by omega) (by omega)) ?_
    refine a_sld (i + 2) dL_law_444 (by omega) (by omega) ?_
    rw [ha2]
    refine a_aload_n (j := 0) dL_law_445 rfl rfl (Nat.le_of_ble_eq_true rfl) ?_
    refine a_iload_n (j := 3) dL_law_446 rfl rfl ?_
    refine a_iconst dL_law_447 ⟨by decide, by decide⟩ ?_
    refine a_iadd (z := (((i : Nat) : Int) + 3)) dL_law_448 (w_ok (by omega) (by omega)) ?_
    refine a_sld (i + 3) dL_law_449 (by omega) (by omega) ?_
    rw [ha3]
    refine b_callV (d' := d - 1) (mc' := 0) (ms' := 0) (mc1 := mc) (ms1 := ms) (st := []) (b := 0) [vI a1, vI a2, vI a3] dL_law_450 mwX8_set lkL_40 (by decide) rfl rc_X8 rfl (Nat.le_of_ble_eq_true rfl) (by omega) (by omega) (by omega) (c_X8_set (v1 := (N 5)) (v2 := (h 0 3)) (v3 := (h (8 + 2 * (Int.toNat a1)) 4)) (v4 := (h (8 + 2 * (Int.toNat a1)) 3)) (v5 := (h (8 + 2 * (Int.toNat a1)) 5)) (by omega)  hR.1.2.1 rfl rfl rfl rfl (show 0 ≤ (N 5) ∧ (N 5) ≤ 12 by omega) (show 0 ≤ (h 0 3) ∧ (h 0 3) ≤ 1000 by omega) (fun t5_1_1 c26_2_1 c58_3_1 c86_4_1 => ?_) (fun t5_1_1 c26_2_1 c58_3_1 c86_4_1 t90_5_1 => ?_) (fun t5_1_1 c26_2_1 c58_3_1 c86_4_1 t90_5_1 => ?_) (fun t5_1_1 c26_2_1 c58_3_1 t62_6_1 => ?_) (fun t5_1_1 c26_2_1 c58_3_1 t62_6_1 c86_7_1 => ?_) (fun t5_1_1 c26_2_1 t34_8_1 => ?_) (fun t5_1_1 c26_2_1 t34_8_1 c58_9_1 c86_10_1 => ?_) (fun t5_1_1 => ?_))
    · have t5_1_1 : 0 ≤ a1 ∧ a1 < (N 5) := t5_1_1
      have c26_2_1 : ¬ a2 = 0 := c26_2_1
      have c58_3_1 : ¬ a2 = 1 := c58_3_1
      have c86_4_1 : ¬ a2 = 2 := c86_4_1
      show Aj γ mL_law d mc ms Post 453 [(0, vK 0), (1, vA 0), (2, vA 123), (3, vI ((i : Nat) : Int))] [vI (-1000000001)] (mk h τ)
      refine a_aload_n (j := 2) dL_law_453 rfl rfl (Nat.le_of_ble_eq_true rfl) ?_
      refine a_aload_n (j := 0) dL_law_454 rfl rfl (Nat.le_of_ble_eq_true rfl) ?_
      refine a_iload_n (j := 3) dL_law_455 rfl rfl ?_
      refine a_iconst dL_law_456 ⟨by decide, by decide⟩ ?_
      refine a_iadd (z := (((i : Nat) : Int) + 1)) dL_law_457 (w_ok (by omega) (by omega)) ?_
      refine a_sld (i + 1) dL_law_458 (by omega) (by omega) ?_
      rw [ha1]
      refine a_aload_n (j := 0) dL_law_459 rfl rfl (Nat.le_of_ble_eq_true rfl) ?_
      refine a_iload_n (j := 3) dL_law_460 rfl rfl ?_
      refine a_iconst dL_law_461 ⟨by decide, by decide⟩ ?_
      refine a_iadd (z := (((i : Nat) : Int) + 2)) dL_law_462 (w_ok (by omega) (by omega)) ?_
      refine a_sld (i + 2) dL_law_463 (by omega) (by omega) ?_
      rw [ha2]
      refine a_aload_n (j := 0) dL_law_464 rfl rfl (Nat.le_of_ble_eq_true rfl) ?_
      refine a_iload_n (j := 3) dL_law_465 rfl rfl ?_
      refine a_iconst dL_law_466 ⟨by decide, by decide⟩ ?_
      refine a_iadd (z := (((i : Nat) : Int) + 3)) dL_law_467 (w_ok (by omega) (by omega)) ?_
      refine a_sld (i + 3) dL_law_468 (by omega) (by omega) ?_
      rw [ha3]
      refine b_callV (d' := d - 1) (mc' := 0) (ms' := 0) (mc1 := mc) (ms1 := ms) (st := [vI (-1000000001)]) (b := 123) [vI a1, vI a2, vI a3] dL_law_469 mwX9_set lkL_44 (by decide) rfl rc_X9 rfl (Nat.le_of_ble_eq_true rfl) (by omega) (by omega) (by omega) (c_X9_set (v1 := (N 5)) (v2 := (N (Int.toNat ((15 + (11 * a1)) + 4)))) (v3 := (N (Int.toNat ((15 + (11 * a1)) + 3)))) (v4 := (N (Int.toNat ((15 + (11 * a1)) + 5)))) (by omega)  (congrFun hN _) (congrFun hN _) (congrFun hN _) (congrFun hN _) (show 0 ≤ (N 5) ∧ (N 5) ≤ 12 by omega) (fun t2_1_3 t11_2_3 c20_3_3 c29_4_3 c40_5_3 t52_6_3 c64_7_3 c73_8_3 => ?_) (fun t2_1_3 t11_2_3 c20_3_3 c29_4_3 c40_5_3 t52_6_3 => ?_) (fun t2_1_3 t11_2_3 c20_3_3 c29_4_3 c40_5_3 t52_9_3 c64_10_3 c73_11_3 => ?_) (fun t2_1_3 t11_2_3 c20_3_3 c29_4_3 c40_5_3 t52_9_3 => ?_) (fun t2_1_3 t11_2_3 c20_3_3 c29_4_3 t52_12_3 c64_13_3 => ?_) (fun t2_1_3 t11_2_3 c20_3_3 c29_4_3 t52_12_3 => ?_) (fun t2_1_3 t11_2_3 c20_3_3 c29_14_3 c40_15_3 t52_16_3 c64_17_3 c73_18_3 => ?_) (fun t2_1_3 t11_2_3 c20_3_3 c29_14_3 c40_15_3 t52_16_3 => ?_) (fun t2_1_3 t11_2_3 => ?_) (fun t2_1_3 => ?_))
      · have t2_1_3 : 0 ≤ a1 ∧ a1 < (N 5) := t2_1_3
        have t11_2_3 : 0 ≤ a2 ∧ a2 ≤ 2 := t11_2_3
        have c20_3_3 : ¬ a2 = 2 := c20_3_3
        have c29_4_3 : ¬ a2 = 0 := c29_4_3
        have c40_5_3 : ¬ a2 = 1 := c40_5_3
        have t52_6_3 : 0 ≤ a3 ∧ a3 ≤ 600 := t52_6_3
        have c64_7_3 : ¬ a2 = 0 := c64_7_3
        have c73_8_3 : ¬ a2 = 1 := c73_8_3
        show Aj γ mL_law d mc ms Post 472 [(0, vK 0), (1, vA 0), (2, vA 123), (3, vI ((i : Nat) : Int))] [vI (N (Int.toNat ((15 + (11 * a1)) + 4))), vI (-1000000001)] (mk (up2 (up2 h 124 (Int.toNat ((15 + (11 * a1)) + 4)) a3) 123 4 0) τ)
        refine a_icmp_eq (tgt := 1668) dL_law_472 (by decide) (fun c472_5 => ?_) (fun c472_5 => ?_)
        · exfalso
          omega
        · refine a_iconst dL_law_475 ⟨by decide, by decide⟩ ?_
          exact a_zret dL_law_476 rfl (by first | exact Or.inl rfl | exact Or.inr rfl | omega) (by exfalso; omega)
      · have t2_1_3 : 0 ≤ a1 ∧ a1 < (N 5) := t2_1_3
        have t11_2_3 : 0 ≤ a2 ∧ a2 ≤ 2 := t11_2_3
        have c20_3_3 : ¬ a2 = 2 := c20_3_3
        have c29_4_3 : ¬ a2 = 0 := c29_4_3
        have c40_5_3 : ¬ a2 = 1 := c40_5_3
        have t52_6_3 : ¬ (0 ≤ a3 ∧ a3 ≤ 600) := t52_6_3
        show Aj γ mL_law d mc ms Post 472 [(0, vK 0), (1, vA 0), (2, vA 123), (3, vI ((i : Nat) : Int))] [vI (-1000000001), vI (-1000000001)] (mk h τ)
        refine a_icmp_eq (tgt := 1668) dL_law_472 (by decide) (fun _ => ?_) (fun c => absurd c (by decide))
        exact kE h N J (IV_up (by omega) hI)
      · exfalso
        omega
      · exfalso
        omega
      · exfalso
        omega
      · exfalso
        omega
      · exfalso
        omega
      · exfalso
        omega
      · have t2_1_3 : 0 ≤ a1 ∧ a1 < (N 5) := t2_1_3
        have t11_2_3 : ¬ (0 ≤ a2 ∧ a2 ≤ 2) := t11_2_3
        show Aj γ mL_law d mc ms Post 472 [(0, vK 0), (1, vA 0), (2, vA 123), (3, vI ((i : Nat) : Int))] [vI (-1000000001), vI (-1000000001)] (mk h τ)
        refine a_icmp_eq (tgt := 1668) dL_law_472 (by decide) (fun _ => ?_) (fun c => absurd c (by decide))
        exact kE h N J (IV_up (by omega) hI)
      · exfalso
        omega
    · have t5_1_1 : 0 ≤ a1 ∧ a1 < (N 5) := t5_1_1
      have c26_2_1 : ¬ a2 = 0 := c26_2_1
      have c58_3_1 : ¬ a2 = 1 := c58_3_1
      have c86_4_1 : a2 = 2 := c86_4_1
      have t90_5_1 : 1 ≤ a3 ∧ a3 ≤ 600 := t90_5_1
      show Aj γ mL_law d mc ms Post 453 [(0, vK 0), (1, vA 0), (2, vA 123), (3, vI ((i : Nat) : Int))] [vI (h (8 + 2 * (Int.toNat a1)) 4)] (mk (up2 (up2 (up2 h (8 + 2 * (Int.toNat a1)) 4 a3) 0 3 ((h 0 3) + 1)) 1 0 ((h 0 3) + 1)) τ)
      refine a_aload_n (j := 2) dL_law_453 rfl rfl (Nat.le_of_ble_eq_true rfl) ?_
      refine a_aload_n (j := 0) dL_law_454 rfl rfl (Nat.le_of_ble_eq_true rfl) ?_
      refine a_iload_n (j := 3) dL_law_455 rfl rfl ?_
      refine a_iconst dL_law_456 ⟨by decide, by decide⟩ ?_
      refine a_iadd (z := (((i : Nat) : Int) + 1)) dL_law_457 (w_ok (by omega) (by omega)) ?_
      refine a_sld (i + 1) dL_law_458 (by omega) (by omega) ?_
      rw [ha1]
      refine a_aload_n (j := 0) dL_law_459 rfl rfl (Nat.le_of_ble_eq_true rfl) ?_
      refine a_iload_n (j := 3) dL_law_460 rfl rfl ?_
      refine a_iconst dL_law_461 ⟨by decide, by decide⟩ ?_
      refine a_iadd (z := (((i : Nat) : Int) + 2)) dL_law_462 (w_ok (by omega) (by omega)) ?_
      refine a_sld (i + 2) dL_law_463 (by omega) (by omega) ?_
      rw [ha2]
      refine a_aload_n (j := 0) dL_law_464 rfl rfl (Nat.le_of_ble_eq_true rfl) ?_
      refine a_iload_n (j := 3) dL_law_465 rfl rfl ?_
      refine a_iconst dL_law_466 ⟨by decide, by decide⟩ ?_
      refine a_iadd (z := (((i : Nat) : Int) + 3)) dL_law_467 (w_ok (by omega) (by omega)) ?_
      refine a_sld (i + 3) dL_law_468 (by omega) (by omega) ?_
      rw [ha3]
      refine b_callV (d' := d - 1) (mc' := 0) (ms' := 0) (mc1 := mc) (ms1 := ms) (st := [vI (h (8 + 2 * (Int.toNat a1)) 4)]) (b := 123) [vI a1, vI a2, vI a3] dL_law_469 mwX9_set lkL_44 (by decide) rfl rc_X9 rfl (Nat.le_of_ble_eq_true rfl) (by omega) (by omega) (by omega) (c_X9_set (v1 := (N 5)) (v2 := (N (Int.toNat ((15 + (11 * a1)) + 4)))) (v3 := (N (Int.toNat ((15 + (11 * a1)) + 3)))) (v4 := (N (Int.toNat ((15 + (11 * a1)) + 5)))) (by omega)  ((up2_ne (by omega)).trans ((up2_ne (by omega)).trans ((up2_ne (by omega)).trans (congrFun hN _)))) ((up2_ne (by omega)).trans ((up2_ne (by omega)).trans ((up2_ne (by omega)).trans (congrFun hN _)))) ((up2_ne (by omega)).trans ((up2_ne (by omega)).trans ((up2_ne (by omega)).trans (congrFun hN _)))) ((up2_ne (by omega)).trans ((up2_ne (by omega)).trans ((up2_ne (by omega)).trans (congrFun hN _)))) (show 0 ≤ (N 5) ∧ (N 5) ≤ 12 by omega) (fun t2_1_6 t11_2_6 c20_3_6 c29_4_6 c40_5_6 t52_6_6 c64_7_6 c73_8_6 => ?_) (fun t2_1_6 t11_2_6 c20_3_6 c29_4_6 c40_5_6 t52_6_6 => ?_) (fun t2_1_6 t11_2_6 c20_3_6 c29_4_6 c40_5_6 t52_9_6 c64_10_6 c73_11_6 => ?_) (fun t2_1_6 t11_2_6 c20_3_6 c29_4_6 c40_5_6 t52_9_6 => ?_) (fun t2_1_6 t11_2_6 c20_3_6 c29_4_6 t52_12_6 c64_13_6 => ?_) (fun t2_1_6 t11_2_6 c20_3_6 c29_4_6 t52_12_6 => ?_) (fun t2_1_6 t11_2_6 c20_3_6 c29_14_6 c40_15_6 t52_16_6 c64_17_6 c73_18_6 => ?_) (fun t2_1_6 t11_2_6 c20_3_6 c29_14_6 c40_15_6 t52_16_6 => ?_) (fun t2_1_6 t11_2_6 => ?_) (fun t2_1_6 => ?_))
      · exfalso
        omega
      · exfalso
        omega
      · exfalso
        omega
      · exfalso
        omega
      · exfalso
        omega
      · exfalso
        omega
      · have t2_1_6 : 0 ≤ a1 ∧ a1 < (N 5) := t2_1_6
        have t11_2_6 : 0 ≤ a2 ∧ a2 ≤ 2 := t11_2_6
        have c20_3_6 : a2 = 2 := c20_3_6
        have c29_14_6 : ¬ a2 = 0 := c29_14_6
        have c40_15_6 : ¬ a2 = 1 := c40_15_6
        have t52_16_6 : 1 ≤ a3 ∧ a3 ≤ 600 := t52_16_6
        have c64_17_6 : ¬ a2 = 0 := c64_17_6
        have c73_18_6 : ¬ a2 = 1 := c73_18_6
        show Aj γ mL_law d mc ms Post 472 [(0, vK 0), (1, vA 0), (2, vA 123), (3, vI ((i : Nat) : Int))] [vI (N (Int.toNat ((15 + (11 * a1)) + 4))), vI (h (8 + 2 * (Int.toNat a1)) 4)] (mk (up2 (up2 (up2 (up2 (up2 h (8 + 2 * (Int.toNat a1)) 4 a3) 0 3 ((h 0 3) + 1)) 1 0 ((h 0 3) + 1)) 124 (Int.toNat ((15 + (11 * a1)) + 4)) a3) 123 4 0) τ)
        refine a_icmp_eq (tgt := 1668) dL_law_472 (by decide) (fun c472_8 => ?_) (fun c472_8 => ?_)
        · exfalso
          omega
        · refine a_iconst dL_law_475 ⟨by decide, by decide⟩ ?_
          exact a_zret dL_law_476 rfl (by first | exact Or.inl rfl | exact Or.inr rfl | omega) (by exfalso; omega)
      · exfalso
        omega
      · have t2_1_6 : 0 ≤ a1 ∧ a1 < (N 5) := t2_1_6
        have t11_2_6 : ¬ (0 ≤ a2 ∧ a2 ≤ 2) := t11_2_6
        show Aj γ mL_law d mc ms Post 472 [(0, vK 0), (1, vA 0), (2, vA 123), (3, vI ((i : Nat) : Int))] [vI (-1000000001), vI (h (8 + 2 * (Int.toNat a1)) 4)] (mk (up2 (up2 (up2 h (8 + 2 * (Int.toNat a1)) 4 a3) 0 3 ((h 0 3) + 1)) 1 0 ((h 0 3) + 1)) τ)
        refine a_icmp_eq (tgt := 1668) dL_law_472 (by decide) (fun c472_9 => ?_) (fun c472_9 => ?_)
        · exfalso
          omega
        · refine a_iconst dL_law_475 ⟨by decide, by decide⟩ ?_
          exact a_zret dL_law_476 rfl (by first | exact Or.inl rfl | exact Or.inr rfl | omega) (by exfalso; omega)
      · exfalso
        omega
    · have t5_1_1 : 0 ≤ a1 ∧ a1 < (N 5) := t5_1_1
      have c26_2_1 : ¬ a2 = 0 := c26_2_1
      have c58_3_1 : ¬ a2 = 1 := c58_3_1
      have c86_4_1 : a2 = 2 := c86_4_1
      have t90_5_1 : ¬ (1 ≤ a3 ∧ a3 ≤ 600) := t90_5_1
      show Aj γ mL_law d mc ms Post 453 [(0, vK 0), (1, vA 0), (2, vA 123), (3, vI ((i : Nat) : Int))] [vI (-1000000001)] (mk h τ)
      refine a_aload_n (j := 2) dL_law_453 rfl rfl (Nat.le_of_ble_eq_true rfl) ?_
      refine a_aload_n (j := 0) dL_law_454 rfl rfl (Nat.le_of_ble_eq_true rfl) ?_
      refine a_iload_n (j := 3) dL_law_455 rfl rfl ?_
      refine a_iconst dL_law_456 ⟨by decide, by decide⟩ ?_
      refine a_iadd (z := (((i : Nat) : Int) + 1)) dL_law_457 (w_ok (by omega) (by omega)) ?_
      refine a_sld (i + 1) dL_law_458 (by omega) (by omega) ?_
      rw [ha1]
      refine a_aload_n (j := 0) dL_law_459 rfl rfl (Nat.le_of_ble_eq_true rfl) ?_
      refine a_iload_n (j := 3) dL_law_460 rfl rfl ?_
      refine a_iconst dL_law_461 ⟨by decide, by decide⟩ ?_
      refine a_iadd (z := (((i : Nat) : Int) + 2)) dL_law_462 (w_ok (by omega) (by omega)) ?_
      refine a_sld (i + 2) dL_law_463 (by omega) (by omega) ?_
      rw [ha2]
      refine a_aload_n (j := 0) dL_law_464 rfl rfl (Nat.le_of_ble_eq_true rfl) ?_
      refine a_iload_n (j := 3) dL_law_465 rfl rfl ?_
      refine a_iconst dL_law_466 ⟨by decide, by decide⟩ ?_
      refine a_iadd (z := (((i : Nat) : Int) + 3)) dL_law_467 (w_ok (by omega) (by omega)) ?_
      refine a_sld (i + 3) dL_law_468 (by omega) (by omega) ?_
      rw [ha3]
      refine b_callV (d' := d - 1) (mc' := 0) (ms' := 0) (mc1 := mc) (ms1 := ms) (st := [vI (-1000000001)]) (b := 123) [vI a1, vI a2, vI a3] dL_law_469 mwX9_set lkL_44 (by decide) rfl rc_X9 rfl (Nat.le_of_ble_eq_true rfl) (by omega) (by omega) (by omega) (c_X9_set (v1 := (N 5)) (v2 := (N (Int.toNat ((15 + (11 * a1)) + 4)))) (v3 := (N (Int.toNat ((15 + (11 * a1)) + 3)))) (v4 := (N (Int.toNat ((15 + (11 * a1)) + 5)))) (by omega)  (congrFun hN _) (congrFun hN _) (congrFun hN _) (congrFun hN _) (show 0 ≤ (N 5) ∧ (N 5) ≤ 12 by omega) (fun t2_1_10 t11_2_10 c20_3_10 c29_4_10 c40_5_10 t52_6_10 c64_7_10 c73_8_10 => ?_) (fun t2_1_10 t11_2_10 c20_3_10 c29_4_10 c40_5_10 t52_6_10 => ?_) (fun t2_1_10 t11_2_10 c20_3_10 c29_4_10 c40_5_10 t52_9_10 c64_10_10 c73_11_10 => ?_) (fun t2_1_10 t11_2_10 c20_3_10 c29_4_10 c40_5_10 t52_9_10 => ?_) (fun t2_1_10 t11_2_10 c20_3_10 c29_4_10 t52_12_10 c64_13_10 => ?_) (fun t2_1_10 t11_2_10 c20_3_10 c29_4_10 t52_12_10 => ?_) (fun t2_1_10 t11_2_10 c20_3_10 c29_14_10 c40_15_10 t52_16_10 c64_17_10 c73_18_10 => ?_) (fun t2_1_10 t11_2_10 c20_3_10 c29_14_10 c40_15_10 t52_16_10 => ?_) (fun t2_1_10 t11_2_10 => ?_) (fun t2_1_10 => ?_))
      · exfalso
        omega
      · exfalso
        omega
      · exfalso
        omega
      · exfalso
        omega
      · exfalso
        omega
      · exfalso
        omega
      · exfalso
        omega
      · have t2_1_10 : 0 ≤ a1 ∧ a1 < (N 5) := t2_1_10
        have t11_2_10 : 0 ≤ a2 ∧ a2 ≤ 2 := t11_2_10
        have c20_3_10 : a2 = 2 := c20_3_10
        have c29_14_10 : ¬ a2 = 0 := c29_14_10
        have c40_15_10 : ¬ a2 = 1 := c40_15_10
        have t52_16_10 : ¬ (1 ≤ a3 ∧ a3 ≤ 600) := t52_16_10
        show Aj γ mL_law d mc ms Post 472 [(0, vK 0), (1, vA 0), (2, vA 123), (3, vI ((i : Nat) : Int))] [vI (-1000000001), vI (-1000000001)] (mk h τ)
        refine a_icmp_eq (tgt := 1668) dL_law_472 (by decide) (fun _ => ?_) (fun c => absurd c (by decide))
        exact kE h N J (IV_up (by omega) hI)
      · have t2_1_10 : 0 ≤ a1 ∧ a1 < (N 5) := t2_1_10
        have t11_2_10 : ¬ (0 ≤ a2 ∧ a2 ≤ 2) := t11_2_10
        show Aj γ mL_law d mc ms Post 472 [(0, vK 0), (1, vA 0), (2, vA 123), (3, vI ((i : Nat) : Int))] [vI (-1000000001), vI (-1000000001)] (mk h τ)
        refine a_icmp_eq (tgt := 1668) dL_law_472 (by decide) (fun _ => ?_) (fun c => absurd c (by decide))
        exact kE h N J (IV_up (by omega) hI)
      · exfalso
        omega
    · have t5_1_1 : 0 ≤ a1 ∧ a1 < (N 5) := t5_1_1
      have c26_2_1 : ¬ a2 = 0 := c26_2_1
      have c58_3_1 : a2 = 1 := c58_3_1
      have t62_6_1 : 0 ≤ a3 ∧ a3 ≤ 1439 := t62_6_1
      show Aj γ mL_law d mc ms Post 453 [(0, vK 0), (1, vA 0), (2, vA 123), (3, vI ((i : Nat) : Int))] [vI (h (8 + 2 * (Int.toNat a1)) 3)] (mk (up2 (up2 (up2 h (8 + 2 * (Int.toNat a1)) 3 a3) 0 3 ((h 0 3) + 1)) 1 0 ((h 0 3) + 1)) τ)
      refine a_aload_n (j := 2) dL_law_453 rfl rfl (Nat.le_of_ble_eq_true rfl) ?_
      refine a_aload_n (j := 0) dL_law_454 rfl rfl (Nat.le_of_ble_eq_true rfl) ?_
      refine a_iload_n (j := 3) dL_law_455 rfl rfl ?_
      refine a_iconst dL_law_456 ⟨by decide, by decide⟩ ?_
      refine a_iadd (z := (((i : Nat) : Int) + 1)) dL_law_457 (w_ok (by omega) (by omega)) ?_
      refine a_sld (i + 1) dL_law_458 (by omega) (by omega) ?_
      rw [ha1]
      refine a_aload_n (j := 0) dL_law_459 rfl rfl (Nat.le_of_ble_eq_true rfl) ?_
      refine a_iload_n (j := 3) dL_law_460 rfl rfl ?_
      refine a_iconst dL_law_461 ⟨by decide, by decide⟩ ?_
      refine a_iadd (z := (((i : Nat) : Int) + 2)) dL_law_462 (w_ok (by omega) (by omega)) ?_
      refine a_sld (i + 2) dL_law_463 (by omega) (by omega) ?_
      rw [ha2]
      refine a_aload_n (j := 0) dL_law_464 rfl rfl (Nat.le_of_ble_eq_true rfl) ?_
      refine a_iload_n (j := 3) dL_law_465 rfl rfl ?_
      refine a_iconst dL_law_466 ⟨by decide, by decide⟩ ?_
      refine a_iadd (z := (((i : Nat) : Int) + 3)) dL_law_467 (w_ok (by omega) (by omega)) ?_
      refine a_sld (i + 3) dL_law_468 (by omega) (by omega) ?_
      rw [ha3]
      refine b_callV (d' := d - 1) (mc' := 0) (ms' := 0) (mc1 := mc) (ms1 := ms) (st := [vI (h (8 + 2 * (Int.toNat a1)) 3)]) (b := 123) [vI a1, vI a2, vI a3] dL_law_469 mwX9_set lkL_44 (by decide) rfl rc_X9 rfl (Nat.le_of_ble_eq_true rfl) (by omega) (by omega) (by omega) (c_X9_set (v1 := (N 5)) (v2 := (N (Int.toNat ((15 + (11 * a1)) + 4)))) (v3 := (N (Int.toNat ((15 + (11 * a1)) + 3)))) (v4 := (N (Int.toNat ((15 + (11 * a1)) + 5)))) (by omega)  ((up2_ne (by omega)).trans ((up2_ne (by omega)).trans ((up2_ne (by omega)).trans (congrFun hN _)))) ((up2_ne (by omega)).trans ((up2_ne (by omega)).trans ((up2_ne (by omega)).trans (congrFun hN _)))) ((up2_ne (by omega)).trans ((up2_ne (by omega)).trans ((up2_ne (by omega)).trans (congrFun hN _)))) ((up2_ne (by omega)).trans ((up2_ne (by omega)).trans ((up2_ne (by omega)).trans (congrFun hN _)))) (show 0 ≤ (N 5) ∧ (N 5) ≤ 12 by omega) (fun t2_1_12 t11_2_12 c20_3_12 c29_4_12 c40_5_12 t52_6_12 c64_7_12 c73_8_12 => ?_) (fun t2_1_12 t11_2_12 c20_3_12 c29_4_12 c40_5_12 t52_6_12 => ?_) (fun t2_1_12 t11_2_12 c20_3_12 c29_4_12 c40_5_12 t52_9_12 c64_10_12 c73_11_12 => ?_) (fun t2_1_12 t11_2_12 c20_3_12 c29_4_12 c40_5_12 t52_9_12 => ?_) (fun t2_1_12 t11_2_12 c20_3_12 c29_4_12 t52_12_12 c64_13_12 => ?_) (fun t2_1_12 t11_2_12 c20_3_12 c29_4_12 t52_12_12 => ?_) (fun t2_1_12 t11_2_12 c20_3_12 c29_14_12 c40_15_12 t52_16_12 c64_17_12 c73_18_12 => ?_) (fun t2_1_12 t11_2_12 c20_3_12 c29_14_12 c40_15_12 t52_16_12 => ?_) (fun t2_1_12 t11_2_12 => ?_) (fun t2_1_12 => ?_))
      · exfalso
        omega
      · exfalso
        omega
      · have t2_1_12 : 0 ≤ a1 ∧ a1 < (N 5) := t2_1_12
        have t11_2_12 : 0 ≤ a2 ∧ a2 ≤ 2 := t11_2_12
        have c20_3_12 : ¬ a2 = 2 := c20_3_12
        have c29_4_12 : ¬ a2 = 0 := c29_4_12
        have c40_5_12 : a2 = 1 := c40_5_12
        have t52_9_12 : 0 ≤ a3 ∧ a3 ≤ 1439 := t52_9_12
        have c64_10_12 : ¬ a2 = 0 := c64_10_12
        have c73_11_12 : a2 = 1 := c73_11_12
        show Aj γ mL_law d mc ms Post 472 [(0, vK 0), (1, vA 0), (2, vA 123), (3, vI ((i : Nat) : Int))] [vI (N (Int.toNat ((15 + (11 * a1)) + 3))), vI (h (8 + 2 * (Int.toNat a1)) 3)] (mk (up2 (up2 (up2 (up2 (up2 h (8 + 2 * (Int.toNat a1)) 3 a3) 0 3 ((h 0 3) + 1)) 1 0 ((h 0 3) + 1)) 124 (Int.toNat ((15 + (11 * a1)) + 3)) a3) 123 4 0) τ)
        refine a_icmp_eq (tgt := 1668) dL_law_472 (by decide) (fun c472_14 => ?_) (fun c472_14 => ?_)
        · exfalso
          omega
        · refine a_iconst dL_law_475 ⟨by decide, by decide⟩ ?_
          exact a_zret dL_law_476 rfl (by first | exact Or.inl rfl | exact Or.inr rfl | omega) (by exfalso; omega)
      · exfalso
        omega
      · exfalso
        omega
      · exfalso
        omega
      · exfalso
        omega
      · exfalso
        omega
      · have t2_1_12 : 0 ≤ a1 ∧ a1 < (N 5) := t2_1_12
        have t11_2_12 : ¬ (0 ≤ a2 ∧ a2 ≤ 2) := t11_2_12
        show Aj γ mL_law d mc ms Post 472 [(0, vK 0), (1, vA 0), (2, vA 123), (3, vI ((i : Nat) : Int))] [vI (-1000000001), vI (h (8 + 2 * (Int.toNat a1)) 3)] (mk (up2 (up2 (up2 h (8 + 2 * (Int.toNat a1)) 3 a3) 0 3 ((h 0 3) + 1)) 1 0 ((h 0 3) + 1)) τ)
        refine a_icmp_eq (tgt := 1668) dL_law_472 (by decide) (fun c472_15 => ?_) (fun c472_15 => ?_)
        · exfalso
          omega
        · refine a_iconst dL_law_475 ⟨by decide, by decide⟩ ?_
          exact a_zret dL_law_476 rfl (by first | exact Or.inl rfl | exact Or.inr rfl | omega) (by exfalso; omega)
      · exfalso
        omega
    · have t5_1_1 : 0 ≤ a1 ∧ a1 < (N 5) := t5_1_1
      have c26_2_1 : ¬ a2 = 0 := c26_2_1
      have c58_3_1 : a2 = 1 := c58_3_1
      have t62_6_1 : ¬ (0 ≤ a3 ∧ a3 ≤ 1439) := t62_6_1
      have c86_7_1 : ¬ a2 = 2 := c86_7_1
      show Aj γ mL_law d mc ms Post 453 [(0, vK 0), (1, vA 0), (2, vA 123), (3, vI ((i : Nat) : Int))] [vI (-1000000001)] (mk h τ)
      refine a_aload_n (j := 2) dL_law_453 rfl rfl (Nat.le_of_ble_eq_true rfl) ?_
      refine a_aload_n (j := 0) dL_law_454 rfl rfl (Nat.le_of_ble_eq_true rfl) ?_
      refine a_iload_n (j := 3) dL_law_455 rfl rfl ?_
      refine a_iconst dL_law_456 ⟨by decide, by decide⟩ ?_
      refine a_iadd (z := (((i : Nat) : Int) + 1)) dL_law_457 (w_ok (by omega) (by omega)) ?_
      refine a_sld (i + 1) dL_law_458 (by omega) (by omega) ?_
      rw [ha1]
      refine a_aload_n (j := 0) dL_law_459 rfl rfl (Nat.le_of_ble_eq_true rfl) ?_
      refine a_iload_n (j := 3) dL_law_460 rfl rfl ?_
      refine a_iconst dL_law_461 ⟨by decide, by decide⟩ ?_
      refine a_iadd (z := (((i : Nat) : Int) + 2)) dL_law_462 (w_ok (by omega) (by omega)) ?_
      refine a_sld (i + 2) dL_law_463 (by omega) (by omega) ?_
      rw [ha2]
      refine a_aload_n (j := 0) dL_law_464 rfl rfl (Nat.le_of_ble_eq_true rfl) ?_
      refine a_iload_n (j := 3) dL_law_465 rfl rfl ?_
      refine a_iconst dL_law_466 ⟨by decide, by decide⟩ ?_
      refine a_iadd (z := (((i : Nat) : Int) + 3)) dL_law_467 (w_ok (by omega) (by omega)) ?_
      refine a_sld (i + 3) dL_law_468 (by omega) (by omega) ?_
      rw [ha3]
      refine b_callV (d' := d - 1) (mc' := 0) (ms' := 0) (mc1 := mc) (ms1 := ms) (st := [vI (-1000000001)]) (b := 123) [vI a1, vI a2, vI a3] dL_law_469 mwX9_set lkL_44 (by decide) rfl rc_X9 rfl (Nat.le_of_ble_eq_true rfl) (by omega) (by omega) (by omega) (c_X9_set (v1 := (N 5)) (v2 := (N (Int.toNat ((15 + (11 * a1)) + 4)))) (v3 := (N (Int.toNat ((15 + (11 * a1)) + 3)))) (v4 := (N (Int.toNat ((15 + (11 * a1)) + 5)))) (by omega)  (congrFun hN _) (congrFun hN _) (congrFun hN _) (congrFun hN _) (show 0 ≤ (N 5) ∧ (N 5) ≤ 12 by omega) (fun t2_1_16 t11_2_16 c20_3_16 c29_4_16 c40_5_16 t52_6_16 c64_7_16 c73_8_16 => ?_) (fun t2_1_16 t11_2_16 c20_3_16 c29_4_16 c40_5_16 t52_6_16 => ?_) (fun t2_1_16 t11_2_16 c20_3_16 c29_4_16 c40_5_16 t52_9_16 c64_10_16 c73_11_16 => ?_) (fun t2_1_16 t11_2_16 c20_3_16 c29_4_16 c40_5_16 t52_9_16 => ?_) (fun t2_1_16 t11_2_16 c20_3_16 c29_4_16 t52_12_16 c64_13_16 => ?_) (fun t2_1_16 t11_2_16 c20_3_16 c29_4_16 t52_12_16 => ?_) (fun t2_1_16 t11_2_16 c20_3_16 c29_14_16 c40_15_16 t52_16_16 c64_17_16 c73_18_16 => ?_) (fun t2_1_16 t11_2_16 c20_3_16 c29_14_16 c40_15_16 t52_16_16 => ?_) (fun t2_1_16 t11_2_16 => ?_) (fun t2_1_16 => ?_))
      · exfalso
        omega
      · exfalso
        omega
      · exfalso
        omega
      · have t2_1_16 : 0 ≤ a1 ∧ a1 < (N 5) := t2_1_16
        have t11_2_16 : 0 ≤ a2 ∧ a2 ≤ 2 := t11_2_16
        have c20_3_16 : ¬ a2 = 2 := c20_3_16
        have c29_4_16 : ¬ a2 = 0 := c29_4_16
        have c40_5_16 : a2 = 1 := c40_5_16
        have t52_9_16 : ¬ (0 ≤ a3 ∧ a3 ≤ 1439) := t52_9_16
        show Aj γ mL_law d mc ms Post 472 [(0, vK 0), (1, vA 0), (2, vA 123), (3, vI ((i : Nat) : Int))] [vI (-1000000001), vI (-1000000001)] (mk h τ)
        refine a_icmp_eq (tgt := 1668) dL_law_472 (by decide) (fun _ => ?_) (fun c => absurd c (by decide))
        exact kE h N J (IV_up (by omega) hI)
      · exfalso
        omega
      · exfalso
        omega
      · exfalso
        omega
      · exfalso
        omega
      · have t2_1_16 : 0 ≤ a1 ∧ a1 < (N 5) := t2_1_16
        have t11_2_16 : ¬ (0 ≤ a2 ∧ a2 ≤ 2) := t11_2_16
        show Aj γ mL_law d mc ms Post 472 [(0, vK 0), (1, vA 0), (2, vA 123), (3, vI ((i : Nat) : Int))] [vI (-1000000001), vI (-1000000001)] (mk h τ)
        refine a_icmp_eq (tgt := 1668) dL_law_472 (by decide) (fun _ => ?_) (fun c => absurd c (by decide))
        exact kE h N J (IV_up (by omega) hI)
      · exfalso
        omega
    · have t5_1_1 : 0 ≤ a1 ∧ a1 < (N 5) := t5_1_1
      have c26_2_1 : a2 = 0 := c26_2_1
      have t34_8_1 : 0 ≤ a3 ∧ a3 ≤ 999 := t34_8_1
      show Aj γ mL_law d mc ms Post 453 [(0, vK 0), (1, vA 0), (2, vA 123), (3, vI ((i : Nat) : Int))] [vI (h (8 + 2 * (Int.toNat a1)) 5)] (mk (up2 (up2 (up2 h (8 + 2 * (Int.toNat a1)) 5 a3) 0 3 ((h 0 3) + 1)) 1 0 ((h 0 3) + 1)) τ)
      refine a_aload_n (j := 2) dL_law_453 rfl rfl (Nat.le_of_ble_eq_true rfl) ?_
      refine a_aload_n (j := 0) dL_law_454 rfl rfl (Nat.le_of_ble_eq_true rfl) ?_
      refine a_iload_n (j := 3) dL_law_455 rfl rfl ?_
      refine a_iconst dL_law_456 ⟨by decide, by decide⟩ ?_
      refine a_iadd (z := (((i : Nat) : Int) + 1)) dL_law_457 (w_ok (by omega) (by omega)) ?_
      refine a_sld (i + 1) dL_law_458 (by omega) (by omega) ?_
      rw [ha1]
      refine a_aload_n (j := 0) dL_law_459 rfl rfl (Nat.le_of_ble_eq_true rfl) ?_
      refine a_iload_n (j := 3) dL_law_460 rfl rfl ?_
      refine a_iconst dL_law_461 ⟨by decide, by decide⟩ ?_
      refine a_iadd (z := (((i : Nat) : Int) + 2)) dL_law_462 (w_ok (by omega) (by omega)) ?_
      refine a_sld (i + 2) dL_law_463 (by omega) (by omega) ?_
      rw [ha2]
      refine a_aload_n (j := 0) dL_law_464 rfl rfl (Nat.le_of_ble_eq_true rfl) ?_
      refine a_iload_n (j := 3) dL_law_465 rfl rfl ?_
      refine a_iconst dL_law_466 ⟨by decide, by decide⟩ ?_
      refine a_iadd (z := (((i : Nat) : Int) + 3)) dL_law_467 (w_ok (by omega) (by omega)) ?_
      refine a_sld (i + 3) dL_law_468 (by omega) (by omega) ?_
      rw [ha3]
      refine b_callV (d' := d - 1) (mc' := 0) (ms' := 0) (mc1 := mc) (ms1 := ms) (st := [vI (h (8 + 2 * (Int.toNat a1)) 5)]) (b := 123) [vI a1, vI a2, vI a3] dL_law_469 mwX9_set lkL_44 (by decide) rfl rc_X9 rfl (Nat.le_of_ble_eq_true rfl) (by omega) (by omega) (by omega) (c_X9_set (v1 := (N 5)) (v2 := (N (Int.toNat ((15 + (11 * a1)) + 4)))) (v3 := (N (Int.toNat ((15 + (11 * a1)) + 3)))) (v4 := (N (Int.toNat ((15 + (11 * a1)) + 5)))) (by omega)  ((up2_ne (by omega)).trans ((up2_ne (by omega)).trans ((up2_ne (by omega)).trans (congrFun hN _)))) ((up2_ne (by omega)).trans ((up2_ne (by omega)).trans ((up2_ne (by omega)).trans (congrFun hN _)))) ((up2_ne (by omega)).trans ((up2_ne (by omega)).trans ((up2_ne (by omega)).trans (congrFun hN _)))) ((up2_ne (by omega)).trans ((up2_ne (by omega)).trans ((up2_ne (by omega)).trans (congrFun hN _)))) (show 0 ≤ (N 5) ∧ (N 5) ≤ 12 by omega) (fun t2_1_18 t11_2_18 c20_3_18 c29_4_18 c40_5_18 t52_6_18 c64_7_18 c73_8_18 => ?_) (fun t2_1_18 t11_2_18 c20_3_18 c29_4_18 c40_5_18 t52_6_18 => ?_) (fun t2_1_18 t11_2_18 c20_3_18 c29_4_18 c40_5_18 t52_9_18 c64_10_18 c73_11_18 => ?_) (fun t2_1_18 t11_2_18 c20_3_18 c29_4_18 c40_5_18 t52_9_18 => ?_) (fun t2_1_18 t11_2_18 c20_3_18 c29_4_18 t52_12_18 c64_13_18 => ?_) (fun t2_1_18 t11_2_18 c20_3_18 c29_4_18 t52_12_18 => ?_) (fun t2_1_18 t11_2_18 c20_3_18 c29_14_18 c40_15_18 t52_16_18 c64_17_18 c73_18_18 => ?_) (fun t2_1_18 t11_2_18 c20_3_18 c29_14_18 c40_15_18 t52_16_18 => ?_) (fun t2_1_18 t11_2_18 => ?_) (fun t2_1_18 => ?_))
      · exfalso
        omega
      · exfalso
        omega
      · exfalso
        omega
      · exfalso
        omega
      · have t2_1_18 : 0 ≤ a1 ∧ a1 < (N 5) := t2_1_18
        have t11_2_18 : 0 ≤ a2 ∧ a2 ≤ 2 := t11_2_18
        have c20_3_18 : ¬ a2 = 2 := c20_3_18
        have c29_4_18 : a2 = 0 := c29_4_18
        have t52_12_18 : 0 ≤ a3 ∧ a3 ≤ 999 := t52_12_18
        have c64_13_18 : a2 = 0 := c64_13_18
        show Aj γ mL_law d mc ms Post 472 [(0, vK 0), (1, vA 0), (2, vA 123), (3, vI ((i : Nat) : Int))] [vI (N (Int.toNat ((15 + (11 * a1)) + 5))), vI (h (8 + 2 * (Int.toNat a1)) 5)] (mk (up2 (up2 (up2 (up2 (up2 h (8 + 2 * (Int.toNat a1)) 5 a3) 0 3 ((h 0 3) + 1)) 1 0 ((h 0 3) + 1)) 124 (Int.toNat ((15 + (11 * a1)) + 5)) a3) 123 4 0) τ)
        refine a_icmp_eq (tgt := 1668) dL_law_472 (by decide) (fun c472_20 => ?_) (fun c472_20 => ?_)
        · exfalso
          omega
        · refine a_iconst dL_law_475 ⟨by decide, by decide⟩ ?_
          exact a_zret dL_law_476 rfl (by first | exact Or.inl rfl | exact Or.inr rfl | omega) (by exfalso; omega)
      · exfalso
        omega
      · exfalso
        omega
      · exfalso
        omega
      · have t2_1_18 : 0 ≤ a1 ∧ a1 < (N 5) := t2_1_18
        have t11_2_18 : ¬ (0 ≤ a2 ∧ a2 ≤ 2) := t11_2_18
        show Aj γ mL_law d mc ms Post 472 [(0, vK 0), (1, vA 0), (2, vA 123), (3, vI ((i : Nat) : Int))] [vI (-1000000001), vI (h (8 + 2 * (Int.toNat a1)) 5)] (mk (up2 (up2 (up2 h (8 + 2 * (Int.toNat a1)) 5 a3) 0 3 ((h 0 3) + 1)) 1 0 ((h 0 3) + 1)) τ)
        refine a_icmp_eq (tgt := 1668) dL_law_472 (by decide) (fun c472_21 => ?_) (fun c472_21 => ?_)
        · exfalso
          omega
        · refine a_iconst dL_law_475 ⟨by decide, by decide⟩ ?_
          exact a_zret dL_law_476 rfl (by first | exact Or.inl rfl | exact Or.inr rfl | omega) (by exfalso; omega)
      · exfalso
        omega
    · have t5_1_1 : 0 ≤ a1 ∧ a1 < (N 5) := t5_1_1
      have c26_2_1 : a2 = 0 := c26_2_1
      have t34_8_1 : ¬ (0 ≤ a3 ∧ a3 ≤ 999) := t34_8_1
      have c58_9_1 : ¬ a2 = 1 := c58_9_1
      have c86_10_1 : ¬ a2 = 2 := c86_10_1
      show Aj γ mL_law d mc ms Post 453 [(0, vK 0), (1, vA 0), (2, vA 123), (3, vI ((i : Nat) : Int))] [vI (-1000000001)] (mk h τ)
      refine a_aload_n (j := 2) dL_law_453 rfl rfl (Nat.le_of_ble_eq_true rfl) ?_
      refine a_aload_n (j := 0) dL_law_454 rfl rfl (Nat.le_of_ble_eq_true rfl) ?_
      refine a_iload_n (j := 3) dL_law_455 rfl rfl ?_
      refine a_iconst dL_law_456 ⟨by decide, by decide⟩ ?_
      refine a_iadd (z := (((i : Nat) : Int) + 1)) dL_law_457 (w_ok (by omega) (by omega)) ?_
      refine a_sld (i + 1) dL_law_458 (by omega) (by omega) ?_
      rw [ha1]
      refine a_aload_n (j := 0) dL_law_459 rfl rfl (Nat.le_of_ble_eq_true rfl) ?_
      refine a_iload_n (j := 3) dL_law_460 rfl rfl ?_
      refine a_iconst dL_law_461 ⟨by decide, by decide⟩ ?_
      refine a_iadd (z := (((i : Nat) : Int) + 2)) dL_law_462 (w_ok (by omega) (by omega)) ?_
      refine a_sld (i + 2) dL_law_463 (by omega) (by omega) ?_
      rw [ha2]
      refine a_aload_n (j := 0) dL_law_464 rfl rfl (Nat.le_of_ble_eq_true rfl) ?_
      refine a_iload_n (j := 3) dL_law_465 rfl rfl ?_
      refine a_iconst dL_law_466 ⟨by decide, by decide⟩ ?_
      refine a_iadd (z := (((i : Nat) : Int) + 3)) dL_law_467 (w_ok (by omega) (by omega)) ?_
      refine a_sld (i + 3) dL_law_468 (by omega) (by omega) ?_
      rw [ha3]
      refine b_callV (d' := d - 1) (mc' := 0) (ms' := 0) (mc1 := mc) (ms1 := ms) (st := [vI (-1000000001)]) (b := 123) [vI a1, vI a2, vI a3] dL_law_469 mwX9_set lkL_44 (by decide) rfl rc_X9 rfl (Nat.le_of_ble_eq_true rfl) (by omega) (by omega) (by omega) (c_X9_set (v1 := (N 5)) (v2 := (N (Int.toNat ((15 + (11 * a1)) + 4)))) (v3 := (N (Int.toNat ((15 + (11 * a1)) + 3)))) (v4 := (N (Int.toNat ((15 + (11 * a1)) + 5)))) (by omega)  (congrFun hN _) (congrFun hN _) (congrFun hN _) (congrFun hN _) (show 0 ≤ (N 5) ∧ (N 5) ≤ 12 by omega) (fun t2_1_22 t11_2_22 c20_3_22 c29_4_22 c40_5_22 t52_6_22 c64_7_22 c73_8_22 => ?_) (fun t2_1_22 t11_2_22 c20_3_22 c29_4_22 c40_5_22 t52_6_22 => ?_) (fun t2_1_22 t11_2_22 c20_3_22 c29_4_22 c40_5_22 t52_9_22 c64_10_22 c73_11_22 => ?_) (fun t2_1_22 t11_2_22 c20_3_22 c29_4_22 c40_5_22 t52_9_22 => ?_) (fun t2_1_22 t11_2_22 c20_3_22 c29_4_22 t52_12_22 c64_13_22 => ?_) (fun t2_1_22 t11_2_22 c20_3_22 c29_4_22 t52_12_22 => ?_) (fun t2_1_22 t11_2_22 c20_3_22 c29_14_22 c40_15_22 t52_16_22 c64_17_22 c73_18_22 => ?_) (fun t2_1_22 t11_2_22 c20_3_22 c29_14_22 c40_15_22 t52_16_22 => ?_) (fun t2_1_22 t11_2_22 => ?_) (fun t2_1_22 => ?_))
      · exfalso
        omega
      · exfalso
        omega
      · exfalso
        omega
      · exfalso
        omega
      · exfalso
        omega
      · have t2_1_22 : 0 ≤ a1 ∧ a1 < (N 5) := t2_1_22
        have t11_2_22 : 0 ≤ a2 ∧ a2 ≤ 2 := t11_2_22
        have c20_3_22 : ¬ a2 = 2 := c20_3_22
        have c29_4_22 : a2 = 0 := c29_4_22
        have t52_12_22 : ¬ (0 ≤ a3 ∧ a3 ≤ 999) := t52_12_22
        show Aj γ mL_law d mc ms Post 472 [(0, vK 0), (1, vA 0), (2, vA 123), (3, vI ((i : Nat) : Int))] [vI (-1000000001), vI (-1000000001)] (mk h τ)
        refine a_icmp_eq (tgt := 1668) dL_law_472 (by decide) (fun _ => ?_) (fun c => absurd c (by decide))
        exact kE h N J (IV_up (by omega) hI)
      · exfalso
        omega
      · exfalso
        omega
      · have t2_1_22 : 0 ≤ a1 ∧ a1 < (N 5) := t2_1_22
        have t11_2_22 : ¬ (0 ≤ a2 ∧ a2 ≤ 2) := t11_2_22
        show Aj γ mL_law d mc ms Post 472 [(0, vK 0), (1, vA 0), (2, vA 123), (3, vI ((i : Nat) : Int))] [vI (-1000000001), vI (-1000000001)] (mk h τ)
        refine a_icmp_eq (tgt := 1668) dL_law_472 (by decide) (fun _ => ?_) (fun c => absurd c (by decide))
        exact kE h N J (IV_up (by omega) hI)
      · exfalso
        omega
    · have t5_1_1 : ¬ (0 ≤ a1 ∧ a1 < (N 5)) := t5_1_1
      show Aj γ mL_law d mc ms Post 453 [(0, vK 0), (1, vA 0), (2, vA 123), (3, vI ((i : Nat) : Int))] [vI (-1000000001)] (mk h τ)
      refine a_aload_n (j := 2) dL_law_453 rfl rfl (Nat.le_of_ble_eq_true rfl) ?_
      refine a_aload_n (j := 0) dL_law_454 rfl rfl (Nat.le_of_ble_eq_true rfl) ?_
      refine a_iload_n (j := 3) dL_law_455 rfl rfl ?_
      refine a_iconst dL_law_456 ⟨by decide, by decide⟩ ?_
      refine a_iadd (z := (((i : Nat) : Int) + 1)) dL_law_457 (w_ok (by omega) (by omega)) ?_
      refine a_sld (i + 1) dL_law_458 (by omega) (by omega) ?_
      rw [ha1]
      refine a_aload_n (j := 0) dL_law_459 rfl rfl (Nat.le_of_ble_eq_true rfl) ?_
      refine a_iload_n (j := 3) dL_law_460 rfl rfl ?_
      refine a_iconst dL_law_461 ⟨by decide, by decide⟩ ?_
      refine a_iadd (z := (((i : Nat) : Int) + 2)) dL_law_462 (w_ok (by omega) (by omega)) ?_
      refine a_sld (i + 2) dL_law_463 (by omega) (by omega) ?_
      rw [ha2]
      refine a_aload_n (j := 0) dL_law_464 rfl rfl (Nat.le_of_ble_eq_true rfl) ?_
      refine a_iload_n (j := 3) dL_law_465 rfl rfl ?_
      refine a_iconst dL_law_466 ⟨by decide, by decide⟩ ?_
      refine a_iadd (z := (((i : Nat) : Int) + 3)) dL_law_467 (w_ok (by omega) (by omega)) ?_
      refine a_sld (i + 3) dL_law_468 (by omega) (by omega) ?_
      rw [ha3]
      refine b_callV (d' := d - 1) (mc' := 0) (ms' := 0) (mc1 := mc) (ms1 := ms) (st := [vI (-1000000001)]) (b := 123) [vI a1, vI a2, vI a3] dL_law_469 mwX9_set lkL_44 (by decide) rfl rc_X9 rfl (Nat.le_of_ble_eq_true rfl) (by omega) (by omega) (by omega) (c_X9_set (v1 := (N 5)) (v2 := (N (Int.toNat ((15 + (11 * a1)) + 4)))) (v3 := (N (Int.toNat ((15 + (11 * a1)) + 3)))) (v4 := (N (Int.toNat ((15 + (11 * a1)) + 5)))) (by omega)  (congrFun hN _) (congrFun hN _) (congrFun hN _) (congrFun hN _) (show 0 ≤ (N 5) ∧ (N 5) ≤ 12 by omega) (fun t2_1_24 t11_2_24 c20_3_24 c29_4_24 c40_5_24 t52_6_24 c64_7_24 c73_8_24 => ?_) (fun t2_1_24 t11_2_24 c20_3_24 c29_4_24 c40_5_24 t52_6_24 => ?_) (fun t2_1_24 t11_2_24 c20_3_24 c29_4_24 c40_5_24 t52_9_24 c64_10_24 c73_11_24 => ?_) (fun t2_1_24 t11_2_24 c20_3_24 c29_4_24 c40_5_24 t52_9_24 => ?_) (fun t2_1_24 t11_2_24 c20_3_24 c29_4_24 t52_12_24 c64_13_24 => ?_) (fun t2_1_24 t11_2_24 c20_3_24 c29_4_24 t52_12_24 => ?_) (fun t2_1_24 t11_2_24 c20_3_24 c29_14_24 c40_15_24 t52_16_24 c64_17_24 c73_18_24 => ?_) (fun t2_1_24 t11_2_24 c20_3_24 c29_14_24 c40_15_24 t52_16_24 => ?_) (fun t2_1_24 t11_2_24 => ?_) (fun t2_1_24 => ?_))
      · exfalso
        omega
      · exfalso
        omega
      · exfalso
        omega
      · exfalso
        omega
      · exfalso
        omega
      · exfalso
        omega
      · exfalso
        omega
      · exfalso
        omega
      · exfalso
        omega
      · have t2_1_24 : ¬ (0 ≤ a1 ∧ a1 < (N 5)) := t2_1_24
        show Aj γ mL_law d mc ms Post 472 [(0, vK 0), (1, vA 0), (2, vA 123), (3, vI ((i : Nat) : Int))] [vI (-1000000001), vI (-1000000001)] (mk h τ)
        refine a_icmp_eq (tgt := 1668) dL_law_472 (by decide) (fun _ => ?_) (fun c => absurd c (by decide))
        exact kE h N J (IV_up (by omega) hI)
