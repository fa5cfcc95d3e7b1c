set_option maxHeartbeats 16000000 in
theorem s_chances {γ : GT} {d mc ms n i : Nat} {N J : Nat → Int} {h : Nat → Nat → Int} {τ : List AC} {Post : Option AV → List AC → Prop} (hd : 30 ≤ d) (hn : n < 64) (hi : i + 5 < g_L γ) (hL : g_L γ ≤ 384) (hI : IVp n h τ N J) (kE : ∀ h' N' J', IVp (n + 1) h' τ N' J' → Aj γ mL_law d mc ms Post 1668 [(0, vK 0), (1, vA 0), (2, vA 123), (3, vI ((i : Nat) : Int))] [] (mk h' τ)) : Aj γ mL_law d mc ms Post 477 [(0, vK 0), (1, vA 0), (2, vA 123), (3, vI ((i : Nat) : Int))] [] (mk h τ) := by
  obtain ⟨hN, hJ, hX, hR, hk, hkK, hC, hRC, hst, hO⟩ := id hI
  have hsc := hX.1.1
  have hs1 := hsc.1
  have hs2 := hsc.2.1
  have hs3 := hsc.2.2.1
  have hs4 := hsc.2.2.2.1
  have hs5 := hsc.2.2.2.2
  have hs6 := hX.1.2.2.2.1
  have hx7 := hX.2.1
  have hx8 := hX.2.2.2.1
  obtain ⟨a1, ha1⟩ : ∃ z, (g_x γ (i + 1)).toInt = z := ⟨_, rfl⟩
  have ra1 : inI a1 := ha1 ▸ i32_rng _
  unfold inI at ra1
  obtain ⟨a2, ha2⟩ : ∃ z, (g_x γ (i + 2)).toInt = z := ⟨_, rfl⟩
  have ra2 : inI a2 := ha2 ▸ i32_rng _
  unfold inI at ra2
  obtain ⟨a3, ha3⟩ : ∃ z, (g_x γ (i + 3)).toInt = z := ⟨_, rfl⟩
  have ra3 : inI a3 := ha3 ▸ i32_rng _
  unfold inI at ra3
  obtain ⟨a4, ha4⟩ : ∃ z, (g_x γ (i + 4)).toInt = z := ⟨_, rfl⟩
  have ra4 : inI a4 := ha4 ▸ i32_rng _
  unfold inI at ra4
  by_cases hin : 0 ≤ a1 ∧ a1 < N 5
  · obtain ⟨t0, rfl⟩ : ∃ z : Nat, a1 = (z : Int) := ⟨Int.toNat a1, by omega⟩
    have hb9 := hX.1.2.2.1 t0 (by omega)
    unfold trR at hb9
    refine a_aload_n (j := 1) dL_law_477 rfl rfl (Nat.le_of_ble_eq_true rfl) ?_
    refine a_aload_n (j := 0) dL_law_478 rfl rfl (Nat.le_of_ble_eq_true rfl) ?_
    refine a_iload_n (j := 3) dL_law_479 rfl rfl ?_
    refine a_iconst dL_law_480 ⟨by decide, by decide⟩ ?_
    refine a_iadd (z := (((i : Nat) : Int) + 1)) dL_law_481 (w_ok (by omega) (by omega)) ?_
    refine a_sld (i + 1) dL_law_482 (by omega) (by omega) ?_
    rw [ha1]
    refine a_aload_n (j := 0) dL_law_483 rfl rfl (Nat.le_of_ble_eq_true rfl) ?_
    refine a_iload_n (j := 3) dL_law_484 rfl rfl ?_
    refine a_iconst dL_law_485 ⟨by decide, by decide⟩ ?_
    refine a_iadd (z := (((i : Nat) : Int) + 2)) dL_law_486 (w_ok (by omega) (by omega)) ?_
    refine a_sld (i + 2) dL_law_487 (by omega) (by omega) ?_
    rw [ha2]
    refine a_aload_n (j := 0) dL_law_488 rfl rfl (Nat.le_of_ble_eq_true rfl) ?_
    refine a_iload_n (j := 3) dL_law_489 rfl rfl ?_
    refine a_iconst dL_law_490 ⟨by decide, by decide⟩ ?_
    refine a_iadd (z := (((i : Nat) : Int) + 3)) dL_law_491 (w_ok (by omega) (by omega)) ?_
    refine a_sld (i + 3) dL_law_492 (by omega) (by omega) ?_
    rw [ha3]
    refine a_aload_n (j := 0) dL_law_493 rfl rfl (Nat.le_of_ble_eq_true rfl) ?_
    refine a_iload_n (j := 3) dL_law_494 rfl rfl ?_
    refine a_iconst dL_law_495 ⟨by decide, by decide⟩ ?_
    refine a_iadd (z := (((i : Nat) : Int) + 4)) dL_law_496 (w_ok (by omega) (by omega)) ?_
    refine a_sld (i + 4) dL_law_497 (by omega) (by omega) ?_
    rw [ha4]
    refine b_callV (d' := d - 1) (mc' := 0) (ms' := 0) (mc1 := mc) (ms1 := ms) (st := []) (b := 0) [vI ((t0 : Nat) : Int), vI a2, vI a3, vI a4] dL_law_498 mwX8_chances lkL_45 (by decide) rfl rc_X8 rfl (Nat.le_of_ble_eq_true rfl) (by omega) (by omega) (by omega) (c_X8_chances (v1 := (N 5)) (v2 := (h 0 3)) (by omega)  hR.1.2.1 rfl (show 0 ≤ (N 5) ∧ (N 5) ≤ 12 by omega) (show 0 ≤ (h 0 3) ∧ (h 0 3) ≤ 1000 by omega) (fun t5_1_1 t15_2_1 => ?_) (fun t5_1_1 t15_2_1 => ?_) (fun t5_1_1 => ?_))
    · have t5_1_1 : 0 ≤ ((t0 : Nat) : Int) ∧ ((t0 : Nat) : Int) < (N 5) := t5_1_1
      have t15_2_1 : (0 ≤ a2 ∧ a2 ≤ 100) ∧ (0 ≤ a3 ∧ a3 ≤ 100) ∧ (0 ≤ a4 ∧ a4 ≤ 100) ∧ a2 + a3 + a4 ≤ 100 := t15_2_1
      show Aj γ mL_law d mc ms Post 501 [(0, vK 0), (1, vA 0), (2, vA 123), (3, vI ((i : Nat) : Int))] [vI (100 - a2 - a3 - a4)] (mk (up2 (up2 (up2 (up2 (up2 (up2 h ((8 + 2 * t0) + 1) 0 (((100 - a2) - a3) - a4)) ((8 + 2 * t0) + 1) 1 a2) ((8 + 2 * t0) + 1) 2 a3) ((8 + 2 * t0) + 1) 3 a4) 0 3 ((h 0 3) + 1)) 1 0 ((h 0 3) + 1)) τ)
      refine a_aload_n (j := 2) dL_law_501 rfl rfl (Nat.le_of_ble_eq_true rfl) ?_
      refine a_aload_n (j := 0) dL_law_502 rfl rfl (Nat.le_of_ble_eq_true rfl) ?_
      refine a_iload_n (j := 3) dL_law_503 rfl rfl ?_
      refine a_iconst dL_law_504 ⟨by decide, by decide⟩ ?_
      refine a_iadd (z := (((i : Nat) : Int) + 1)) dL_law_505 (w_ok (by omega) (by omega)) ?_
      refine a_sld (i + 1) dL_law_506 (by omega) (by omega) ?_
      rw [ha1]
      refine a_aload_n (j := 0) dL_law_507 rfl rfl (Nat.le_of_ble_eq_true rfl) ?_
      refine a_iload_n (j := 3) dL_law_508 rfl rfl ?_
      refine a_iconst dL_law_509 ⟨by decide, by decide⟩ ?_
      refine a_iadd (z := (((i : Nat) : Int) + 2)) dL_law_510 (w_ok (by omega) (by omega)) ?_
      refine a_sld (i + 2) dL_law_511 (by omega) (by omega) ?_
      rw [ha2]
      refine a_aload_n (j := 0) dL_law_512 rfl rfl (Nat.le_of_ble_eq_true rfl) ?_
      refine a_iload_n (j := 3) dL_law_513 rfl rfl ?_
      refine a_iconst dL_law_514 ⟨by decide, by decide⟩ ?_
      refine a_iadd (z := (((i : Nat) : Int) + 3)) dL_law_515 (w_ok (by omega) (by omega)) ?_
      refine a_sld (i + 3) dL_law_516 (by omega) (by omega) ?_
      rw [ha3]
      refine a_aload_n (j := 0) dL_law_517 rfl rfl (Nat.le_of_ble_eq_true rfl) ?_
      refine a_iload_n (j := 3) dL_law_518 rfl rfl ?_
      refine a_iconst dL_law_519 ⟨by decide, by decide⟩ ?_
      refine a_iadd (z := (((i : Nat) : Int) + 4)) dL_law_520 (w_ok (by omega) (by omega)) ?_
      refine a_sld (i + 4) dL_law_521 (by omega) (by omega) ?_
      rw [ha4]
      refine b_callV (d' := d - 1) (mc' := 0) (ms' := 0) (mc1 := mc) (ms1 := ms) (st := [vI (100 - a2 - a3 - a4)]) (b := 123) [vI ((t0 : Nat) : Int), vI a2, vI a3, vI a4] dL_law_522 mwX9_chances lkL_48 (by decide) rfl rc_X9 rfl (Nat.le_of_ble_eq_true rfl) (by omega) (by omega) (by omega) (c_X9_chances (v1 := (N 5)) (by omega)  ((up2_ne (by omega)).trans ((up2_ne (by omega)).trans ((up2_ne (by omega)).trans ((up2_ne (by omega)).trans ((up2_ne (by omega)).trans ((up2_ne (by omega)).trans (congrFun hN _))))))) (show 0 ≤ (N 5) ∧ (N 5) ≤ 12 by omega) (fun t2_1_3 t12_2_3 => ?_) (fun t2_1_3 t12_2_3 => ?_) (fun t2_1_3 => ?_))
      · have t2_1_3 : 0 ≤ ((t0 : Nat) : Int) ∧ ((t0 : Nat) : Int) < (N 5) := t2_1_3
        have t12_2_3 : (0 ≤ a2 ∧ a2 ≤ 100) ∧ (0 ≤ a3 ∧ a3 ≤ 100) ∧ (0 ≤ a4 ∧ a4 ≤ 100) ∧ a2 + a3 + a4 ≤ 100 := t12_2_3
        show Aj γ mL_law d mc ms Post 525 [(0, vK 0), (1, vA 0), (2, vA 123), (3, vI ((i : Nat) : Int))] [vI (100 - a2 - a3 - a4), vI (100 - a2 - a3 - a4)] (mk (up2 (up2 (up2 (up2 (up2 (up2 (up2 (up2 (up2 (up2 (up2 h ((8 + 2 * t0) + 1) 0 (((100 - a2) - a3) - a4)) ((8 + 2 * t0) + 1) 1 a2) ((8 + 2 * t0) + 1) 2 a3) ((8 + 2 * t0) + 1) 3 a4) 0 3 ((h 0 3) + 1)) 1 0 ((h 0 3) + 1)) 124 (Int.toNat ((15 + (11 * ((t0 : Nat) : Int))) + 7)) (((100 - a2) - a3) - a4)) 124 (Int.toNat (((15 + (11 * ((t0 : Nat) : Int))) + 7) + 1)) a2) 124 (Int.toNat (((15 + (11 * ((t0 : Nat) : Int))) + 7) + 2)) a3) 124 (Int.toNat (((15 + (11 * ((t0 : Nat) : Int))) + 7) + 3)) a4) 123 4 0) τ)
        refine a_icmp_eq (tgt := 1668) dL_law_525 (by decide) (fun c525_5 => ?_) (fun c525_5 => ?_)
        · generalize hHH : (up2 (up2 (up2 (up2 (up2 (up2 (up2 (up2 (up2 (up2 (up2 h ((8 + 2 * t0) + 1) 0 (((100 - a2) - a3) - a4)) ((8 + 2 * t0) + 1) 1 a2) ((8 + 2 * t0) + 1) 2 a3) ((8 + 2 * t0) + 1) 3 a4) 0 3 ((h 0 3) + 1)) 1 0 ((h 0 3) + 1)) 124 (Int.toNat ((15 + (11 * ((t0 : Nat) : Int))) + 7)) (((100 - a2) - a3) - a4)) 124 (Int.toNat (((15 + (11 * ((t0 : Nat) : Int))) + 7) + 1)) a2) 124 (Int.toNat (((15 + (11 * ((t0 : Nat) : Int))) + 7) + 2)) a3) 124 (Int.toNat (((15 + (11 * ((t0 : Nat) : Int))) + 7) + 3)) a4) 123 4 0) = H
          have c0_ : H (8 + 2 * t0) 0 = h (8 + 2 * t0) 0 := by rw [← hHH]; exact ((up2_ne (by omega)).trans ((up2_ne (by omega)).trans ((up2_ne (by omega)).trans ((up2_ne (by omega)).trans ((up2_ne (by omega)).trans ((up2_ne (by omega)).trans ((up2_ne (by omega)).trans ((up2_ne (by omega)).trans ((up2_ne (by omega)).trans ((up2_ne (by omega)).trans ((up2_ne (by omega)).trans rfl)))))))))))
          have f15_ : H 124 (15 + 11 * t0) = N (15 + 11 * t0) := by rw [← hHH]; exact ((up2_ne (by omega)).trans ((up2_ne (by omega)).trans ((up2_ne (by omega)).trans ((up2_ne (by omega)).trans ((up2_ne (by omega)).trans ((up2_ne (by omega)).trans ((up2_ne (by omega)).trans ((up2_ne (by omega)).trans ((up2_ne (by omega)).trans ((up2_ne (by omega)).trans ((up2_ne (by omega)).trans (congrFun hN _))))))))))))
          have c1_ : H (8 + 2 * t0) 1 = h (8 + 2 * t0) 1 := by rw [← hHH]; exact ((up2_ne (by omega)).trans ((up2_ne (by omega)).trans ((up2_ne (by omega)).trans ((up2_ne (by omega)).trans ((up2_ne (by omega)).trans ((up2_ne (by omega)).trans ((up2_ne (by omega)).trans ((up2_ne (by omega)).trans ((up2_ne (by omega)).trans ((up2_ne (by omega)).trans ((up2_ne (by omega)).trans rfl)))))))))))
          have f16_ : H 124 (16 + 11 * t0) = N (16 + 11 * t0) := by rw [← hHH]; exact ((up2_ne (by omega)).trans ((up2_ne (by omega)).trans ((up2_ne (by omega)).trans ((up2_ne (by omega)).trans ((up2_ne (by omega)).trans ((up2_ne (by omega)).trans ((up2_ne (by omega)).trans ((up2_ne (by omega)).trans ((up2_ne (by omega)).trans ((up2_ne (by omega)).trans ((up2_ne (by omega)).trans (congrFun hN _))))))))))))
          have c2_ : H (8 + 2 * t0) 2 = h (8 + 2 * t0) 2 := by rw [← hHH]; exact ((up2_ne (by omega)).trans ((up2_ne (by omega)).trans ((up2_ne (by omega)).trans ((up2_ne (by omega)).trans ((up2_ne (by omega)).trans ((up2_ne (by omega)).trans ((up2_ne (by omega)).trans ((up2_ne (by omega)).trans ((up2_ne (by omega)).trans ((up2_ne (by omega)).trans ((up2_ne (by omega)).trans rfl)))))))))))
          have f17_ : H 124 (17 + 11 * t0) = N (17 + 11 * t0) := by rw [← hHH]; exact ((up2_ne (by omega)).trans ((up2_ne (by omega)).trans ((up2_ne (by omega)).trans ((up2_ne (by omega)).trans ((up2_ne (by omega)).trans ((up2_ne (by omega)).trans ((up2_ne (by omega)).trans ((up2_ne (by omega)).trans ((up2_ne (by omega)).trans ((up2_ne (by omega)).trans ((up2_ne (by omega)).trans (congrFun hN _))))))))))))
          have c3_ : H (8 + 2 * t0) 3 = h (8 + 2 * t0) 3 := by rw [← hHH]; exact ((up2_ne (by omega)).trans ((up2_ne (by omega)).trans ((up2_ne (by omega)).trans ((up2_ne (by omega)).trans ((up2_ne (by omega)).trans ((up2_ne (by omega)).trans ((up2_ne (by omega)).trans ((up2_ne (by omega)).trans ((up2_ne (by omega)).trans ((up2_ne (by omega)).trans ((up2_ne (by omega)).trans rfl)))))))))))
          have f18_ : H 124 (18 + 11 * t0) = N (18 + 11 * t0) := by rw [← hHH]; exact ((up2_ne (by omega)).trans ((up2_ne (by omega)).trans ((up2_ne (by omega)).trans ((up2_ne (by omega)).trans ((up2_ne (by omega)).trans ((up2_ne (by omega)).trans ((up2_ne (by omega)).trans ((up2_ne (by omega)).trans ((up2_ne (by omega)).trans ((up2_ne (by omega)).trans ((up2_ne (by omega)).trans (congrFun hN _))))))))))))
          have c4_ : H (8 + 2 * t0) 4 = h (8 + 2 * t0) 4 := by rw [← hHH]; exact ((up2_ne (by omega)).trans ((up2_ne (by omega)).trans ((up2_ne (by omega)).trans ((up2_ne (by omega)).trans ((up2_ne (by omega)).trans ((up2_ne (by omega)).trans ((up2_ne (by omega)).trans ((up2_ne (by omega)).trans ((up2_ne (by omega)).trans ((up2_ne (by omega)).trans ((up2_ne (by omega)).trans rfl)))))))))))
          have f19_ : H 124 (19 + 11 * t0) = N (19 + 11 * t0) := by rw [← hHH]; exact ((up2_ne (by omega)).trans ((up2_ne (by omega)).trans ((up2_ne (by omega)).trans ((up2_ne (by omega)).trans ((up2_ne (by omega)).trans ((up2_ne (by omega)).trans ((up2_ne (by omega)).trans ((up2_ne (by omega)).trans ((up2_ne (by omega)).trans ((up2_ne (by omega)).trans ((up2_ne (by omega)).trans (congrFun hN _))))))))))))
          have c5_ : H (8 + 2 * t0) 5 = h (8 + 2 * t0) 5 := by rw [← hHH]; exact ((up2_ne (by omega)).trans ((up2_ne (by omega)).trans ((up2_ne (by omega)).trans ((up2_ne (by omega)).trans ((up2_ne (by omega)).trans ((up2_ne (by omega)).trans ((up2_ne (by omega)).trans ((up2_ne (by omega)).trans ((up2_ne (by omega)).trans ((up2_ne (by omega)).trans ((up2_ne (by omega)).trans rfl)))))))))))
          have f20_ : H 124 (20 + 11 * t0) = N (20 + 11 * t0) := by rw [← hHH]; exact ((up2_ne (by omega)).trans ((up2_ne (by omega)).trans ((up2_ne (by omega)).trans ((up2_ne (by omega)).trans ((up2_ne (by omega)).trans ((up2_ne (by omega)).trans ((up2_ne (by omega)).trans ((up2_ne (by omega)).trans ((up2_ne (by omega)).trans ((up2_ne (by omega)).trans ((up2_ne (by omega)).trans (congrFun hN _))))))))))))
          have c6_ : H (8 + 2 * t0) 6 = h (8 + 2 * t0) 6 := by rw [← hHH]; exact ((up2_ne (by omega)).trans ((up2_ne (by omega)).trans ((up2_ne (by omega)).trans ((up2_ne (by omega)).trans ((up2_ne (by omega)).trans ((up2_ne (by omega)).trans ((up2_ne (by omega)).trans ((up2_ne (by omega)).trans ((up2_ne (by omega)).trans ((up2_ne (by omega)).trans ((up2_ne (by omega)).trans rfl)))))))))))
          have f21_ : H 124 (21 + 11 * t0) = N (21 + 11 * t0) := by rw [← hHH]; exact ((up2_ne (by omega)).trans ((up2_ne (by omega)).trans ((up2_ne (by omega)).trans ((up2_ne (by omega)).trans ((up2_ne (by omega)).trans ((up2_ne (by omega)).trans ((up2_ne (by omega)).trans ((up2_ne (by omega)).trans ((up2_ne (by omega)).trans ((up2_ne (by omega)).trans ((up2_ne (by omega)).trans (congrFun hN _))))))))))))
          have f4_ : H 124 4 = N 4 := by rw [← hHH]; exact ((up2_ne (by omega)).trans ((up2_ne (by omega)).trans ((up2_ne (by omega)).trans ((up2_ne (by omega)).trans ((up2_ne (by omega)).trans ((up2_ne (by omega)).trans ((up2_ne (by omega)).trans ((up2_ne (by omega)).trans ((up2_ne (by omega)).trans ((up2_ne (by omega)).trans ((up2_ne (by omega)).trans (congrFun hN _))))))))))))
          have e0_ : H ((8 + 2 * t0) + 1) 0 = (((100 - a2) - a3) - a4) := by rw [← hHH]; exact ((up2_ne (by omega)).trans ((up2_ne (by omega)).trans ((up2_ne (by omega)).trans ((up2_ne (by omega)).trans ((up2_ne (by omega)).trans ((up2_ne (by omega)).trans ((up2_ne (by omega)).trans ((up2_ne (by omega)).trans ((up2_ne (by omega)).trans ((up2_ne (by omega)).trans (up2_hit (by omega) (by omega))))))))))))
          have g0_ : H 124 (22 + 11 * t0 + 0) = (((100 - a2) - a3) - a4) := by rw [← hHH]; exact ((up2_ne (by omega)).trans ((up2_ne (by omega)).trans ((up2_ne (by omega)).trans ((up2_ne (by omega)).trans (up2_hit (by omega) (by omega))))))
          have e1_ : H ((8 + 2 * t0) + 1) 1 = a2 := by rw [← hHH]; exact ((up2_ne (by omega)).trans ((up2_ne (by omega)).trans ((up2_ne (by omega)).trans ((up2_ne (by omega)).trans ((up2_ne (by omega)).trans ((up2_ne (by omega)).trans ((up2_ne (by omega)).trans ((up2_ne (by omega)).trans ((up2_ne (by omega)).trans (up2_hit (by omega) (by omega)))))))))))
          have g1_ : H 124 (22 + 11 * t0 + 1) = a2 := by rw [← hHH]; exact ((up2_ne (by omega)).trans ((up2_ne (by omega)).trans ((up2_ne (by omega)).trans (up2_hit (by omega) (by omega)))))
          have e2_ : H ((8 + 2 * t0) + 1) 2 = a3 := by rw [← hHH]; exact ((up2_ne (by omega)).trans ((up2_ne (by omega)).trans ((up2_ne (by omega)).trans ((up2_ne (by omega)).trans ((up2_ne (by omega)).trans ((up2_ne (by omega)).trans ((up2_ne (by omega)).trans ((up2_ne (by omega)).trans (up2_hit (by omega) (by omega))))))))))
          have g2_ : H 124 (22 + 11 * t0 + 2) = a3 := by rw [← hHH]; exact ((up2_ne (by omega)).trans ((up2_ne (by omega)).trans (up2_hit (by omega) (by omega))))
          have e3_ : H ((8 + 2 * t0) + 1) 3 = a4 := by rw [← hHH]; exact ((up2_ne (by omega)).trans ((up2_ne (by omega)).trans ((up2_ne (by omega)).trans ((up2_ne (by omega)).trans ((up2_ne (by omega)).trans ((up2_ne (by omega)).trans ((up2_ne (by omega)).trans (up2_hit (by omega) (by omega)))))))))
          have g3_ : H 124 (22 + 11 * t0 + 3) = a4 := by rw [← hHH]; exact ((up2_ne (by omega)).trans (up2_hit (by omega) (by omega)))
          have f22_ : H 124 (22 + 11 * t0) = (((100 - a2) - a3) - a4) := by rw [← hHH]; exact ((up2_ne (by omega)).trans ((up2_ne (by omega)).trans ((up2_ne (by omega)).trans ((up2_ne (by omega)).trans (up2_hit (by omega) (by omega))))))
          have hb0 := hX.1.2.2.1 t0 (by omega)
          unfold trR at hb0
          have hw0 := hR.2.2.1 t0 (by omega)
          unfold trW at hw0
          have hr : trR (H 124) t0 := by unfold trR; rw [f4_, f15_, f16_, f17_, f18_, f19_, f20_, f21_, f22_, g1_, g2_, g3_]; omega
          have hw : trW H (8 + 2 * t0) (H 124) t0 := ⟨c0_.trans (hw0.1.trans f15_.symm), c1_.trans (hw0.2.1.trans f16_.symm), c2_.trans (hw0.2.2.1.trans f17_.symm), c3_.trans (hw0.2.2.2.1.trans f18_.symm), c4_.trans (hw0.2.2.2.2.1.trans f19_.symm), c5_.trans (hw0.2.2.2.2.2.1.trans f20_.symm), c6_.trans (hw0.2.2.2.2.2.2.1.trans (congrArg hsF f21_.symm)), fun s hs => by
            rcases (show s = 0 ∨ s = 1 ∨ s = 2 ∨ s = 3 by omega) with rfl | rfl | rfl | rfl
            · (rw [show H (8 + 2 * t0 + 1) 0 = _ from e0_, g0_] <;> first | rfl | omega)
            · (rw [show H (8 + 2 * t0 + 1) 1 = _ from e1_, g1_] <;> first | rfl | omega)
            · (rw [show H (8 + 2 * t0 + 1) 2 = _ from e2_, g2_] <;> first | rfl | omega)
            · (rw [show H (8 + 2 * t0 + 1) 3 = _ from e3_, g3_] <;> first | rfl | omega)⟩
          have a1_ : ∀ k : Nat, k ≠ 0 → H 1 k = h 1 k := fun k q0_ => by rw [← hHH]; exact ((up2_ne (by omega)).trans ((up2_ne (by omega)).trans ((up2_ne (by omega)).trans ((up2_ne (by omega)).trans ((up2_ne (by omega)).trans ((up2_ne (by omega)).trans ((up2_ne (by omega)).trans ((up2_ne (by omega)).trans ((up2_ne (by omega)).trans ((up2_ne (by omega)).trans ((up2_ne (by omega)).trans rfl)))))))))))
          have a5_ : ∀ c, 2 ≤ c → c < 32 → c ≠ 8 + 2 * t0 → c ≠ 8 + 2 * t0 + 1 → H c = h c := fun c q0_ q1_ q2_ q3_ => by rw [← hHH]; exact ((up2_row (by omega)).trans ((up2_row (by omega)).trans ((up2_row (by omega)).trans ((up2_row (by omega)).trans ((up2_row (by omega)).trans ((up2_row (by omega)).trans ((up2_row (by omega)).trans ((up2_row (by omega)).trans ((up2_row (by omega)).trans ((up2_row (by omega)).trans ((up2_row (by omega)).trans rfl)))))))))))
          have n3_ : ∀ k : Nat, (k < 15 + 11 * t0 ∨ 15 + 11 * t0 + 11 ≤ k) → H 124 k = N k := fun k q0_ => by rw [← hHH]; exact ((up2_ne (by omega)).trans ((up2_ne (by omega)).trans ((up2_ne (by omega)).trans ((up2_ne (by omega)).trans ((up2_ne (by omega)).trans ((up2_ne (by omega)).trans ((up2_ne (by omega)).trans ((up2_ne (by omega)).trans ((up2_ne (by omega)).trans ((up2_ne (by omega)).trans ((up2_ne (by omega)).trans (congrFun hN _))))))))))))
          have hW := W_tr (h := h) (h' := H) (t0 := t0) hX hR (by omega) a1_ a5_ n3_ hr hw
          have gF : ∀ c, ¬ inW c → H c = h c := fun c q0_ => by unfold inW at q0_; rw [← hHH]; exact ((up2_row (by omega)).trans ((up2_row (by omega)).trans ((up2_row (by omega)).trans ((up2_row (by omega)).trans ((up2_row (by omega)).trans ((up2_row (by omega)).trans ((up2_row (by omega)).trans ((up2_row (by omega)).trans ((up2_row (by omega)).trans ((up2_row (by omega)).trans ((up2_row (by omega)).trans rfl)))))))))))
          have g0 : ∀ k : Nat, k ≠ 3 → H 0 k = h 0 k := fun k q0_ => by rw [← hHH]; exact ((up2_ne (by omega)).trans ((up2_ne (by omega)).trans ((up2_ne (by omega)).trans ((up2_ne (by omega)).trans ((up2_ne (by omega)).trans ((up2_ne (by omega)).trans ((up2_ne (by omega)).trans ((up2_ne (by omega)).trans ((up2_ne (by omega)).trans ((up2_ne (by omega)).trans ((up2_ne (by omega)).trans rfl)))))))))))
          have e03 : H 0 3 = ((h 0 3) + 1) := by rw [← hHH]; exact ((up2_ne (by omega)).trans ((up2_ne (by omega)).trans ((up2_ne (by omega)).trans ((up2_ne (by omega)).trans ((up2_ne (by omega)).trans ((up2_ne (by omega)).trans (up2_hit (by omega) (by omega))))))))
          have e10 : H 1 0 = ((h 0 3) + 1) := by rw [← hHH]; exact ((up2_ne (by omega)).trans ((up2_ne (by omega)).trans ((up2_ne (by omega)).trans ((up2_ne (by omega)).trans ((up2_ne (by omega)).trans (up2_hit (by omega) (by omega)))))))
          have g3 : ∀ k : Nat, k ≠ 4 → H 123 k = h 123 k := fun k q0_ => by rw [← hHH]; exact ((up2_ne (by omega)).trans ((up2_ne (by omega)).trans ((up2_ne (by omega)).trans ((up2_ne (by omega)).trans ((up2_ne (by omega)).trans ((up2_ne (by omega)).trans ((up2_ne (by omega)).trans ((up2_ne (by omega)).trans ((up2_ne (by omega)).trans ((up2_ne (by omega)).trans ((up2_ne (by omega)).trans rfl)))))))))))
          have e4 : H 123 4 = 0 := by rw [← hHH]; exact (up2_hit (by omega) (by omega))
          exact kE H (H 124) J (IV_s hI gF g0 e03 e10 g3 e4 rfl hW.1 hW.2)
        · refine a_iconst dL_law_528 ⟨by decide, by decide⟩ ?_
          exact a_zret dL_law_529 rfl (by first | exact Or.inl rfl | exact Or.inr rfl | omega) (by exfalso; omega)
      · exfalso
        omega
      · exfalso
        omega
    · have t5_1_1 : 0 ≤ ((t0 : Nat) : Int) ∧ ((t0 : Nat) : Int) < (N 5) := t5_1_1
      have t15_2_1 : ¬ ((0 ≤ a2 ∧ a2 ≤ 100) ∧ (0 ≤ a3 ∧ a3 ≤ 100) ∧ (0 ≤ a4 ∧ a4 ≤ 100) ∧ a2 + a3 + a4 ≤ 100) := t15_2_1
      show Aj γ mL_law d mc ms Post 501 [(0, vK 0), (1, vA 0), (2, vA 123), (3, vI ((i : Nat) : Int))] [vI (-1000000001)] (mk h τ)
      refine a_aload_n (j := 2) dL_law_501 rfl rfl (Nat.le_of_ble_eq_true rfl) ?_
      refine a_aload_n (j := 0) dL_law_502 rfl rfl (Nat.le_of_ble_eq_true rfl) ?_
      refine a_iload_n (j := 3) dL_law_503 rfl rfl ?_
      refine a_iconst dL_law_504 ⟨by decide, by decide⟩ ?_
      refine a_iadd (z := (((i : Nat) : Int) + 1)) dL_law_505 (w_ok (by omega) (by omega)) ?_
      refine a_sld (i + 1) dL_law_506 (by omega) (by omega) ?_
      rw [ha1]
      refine a_aload_n (j := 0) dL_law_507 rfl rfl (Nat.le_of_ble_eq_true rfl) ?_
      refine a_iload_n (j := 3) dL_law_508 rfl rfl ?_
      refine a_iconst dL_law_509 ⟨by decide, by decide⟩ ?_
      refine a_iadd (z := (((i : Nat) : Int) + 2)) dL_law_510 (w_ok (by omega) (by omega)) ?_
      refine a_sld (i + 2) dL_law_511 (by omega) (by omega) ?_
      rw [ha2]
      refine a_aload_n (j := 0) dL_law_512 rfl rfl (Nat.le_of_ble_eq_true rfl) ?_
      refine a_iload_n (j := 3) dL_law_513 rfl rfl ?_
      refine a_iconst dL_law_514 ⟨by decide, by decide⟩ ?_
      refine a_iadd (z := (((i : Nat) : Int) + 3)) dL_law_515 (w_ok (by omega) (by omega)) ?_
      refine a_sld (i + 3) dL_law_516 (by omega) (by omega) ?_
      rw [ha3]
      refine a_aload_n (j := 0) dL_law_517 rfl rfl (Nat.le_of_ble_eq_true rfl) ?_
      refine a_iload_n (j := 3) dL_law_518 rfl rfl ?_
      refine a_iconst dL_law_519 ⟨by decide, by decide⟩ ?_
      refine a_iadd (z := (((i : Nat) : Int) + 4)) dL_law_520 (w_ok (by omega) (by omega)) ?_
      refine a_sld (i + 4) dL_law_521 (by omega) (by omega) ?_
      rw [ha4]
      refine b_callV (d' := d - 1) (mc' := 0) (ms' := 0) (mc1 := mc) (ms1 := ms) (st := [vI (-1000000001)]) (b := 123) [vI ((t0 : Nat) : Int), vI a2, vI a3, vI a4] dL_law_522 mwX9_chances lkL_48 (by decide) rfl rc_X9 rfl (Nat.le_of_ble_eq_true rfl) (by omega) (by omega) (by omega) (c_X9_chances (v1 := (N 5)) (by omega)  (congrFun hN _) (show 0 ≤ (N 5) ∧ (N 5) ≤ 12 by omega) (fun t2_1_6 t12_2_6 => ?_) (fun t2_1_6 t12_2_6 => ?_) (fun t2_1_6 => ?_))
      · exfalso
        omega
      · have t2_1_6 : 0 ≤ ((t0 : Nat) : Int) ∧ ((t0 : Nat) : Int) < (N 5) := t2_1_6
        have t12_2_6 : ¬ ((0 ≤ a2 ∧ a2 ≤ 100) ∧ (0 ≤ a3 ∧ a3 ≤ 100) ∧ (0 ≤ a4 ∧ a4 ≤ 100) ∧ a2 + a3 + a4 ≤ 100) := t12_2_6
        show Aj γ mL_law d mc ms Post 525 [(0, vK 0), (1, vA 0), (2, vA 123), (3, vI ((i : Nat) : Int))] [vI (-1000000001), vI (-1000000001)] (mk h τ)
        refine a_icmp_eq (tgt := 1668) dL_law_525 (by decide) (fun _ => ?_) (fun c => absurd c (by decide))
        exact kE h N J (IV_up (by omega) hI)
      · exfalso
        omega
    · have t5_1_1 : ¬ (0 ≤ ((t0 : Nat) : Int) ∧ ((t0 : Nat) : Int) < (N 5)) := t5_1_1
      show Aj γ mL_law d mc ms Post 501 [(0, vK 0), (1, vA 0), (2, vA 123), (3, vI ((i : Nat) : Int))] [vI (-1000000001)] (mk h τ)
      refine a_aload_n (j := 2) dL_law_501 rfl rfl (Nat.le_of_ble_eq_true rfl) ?_
      refine a_aload_n (j := 0) dL_law_502 rfl rfl (Nat.le_of_ble_eq_true rfl) ?_
      refine a_iload_n (j := 3) dL_law_503 rfl rfl ?_
      refine a_iconst dL_law_504 ⟨by decide, by decide⟩ ?_
      refine a_iadd (z := (((i : Nat) : Int) + 1)) dL_law_505 (w_ok (by omega) (by omega)) ?_
      refine a_sld (i + 1) dL_law_506 (by omega) (by omega) ?_
      rw [ha1]
      refine a_aload_n (j := 0) dL_law_507 rfl rfl (Nat.le_of_ble_eq_true rfl) ?_
      refine a_iload_n (j := 3) dL_law_508 rfl rfl ?_
      refine a_iconst dL_law_509 ⟨by decide, by decide⟩ ?_
      refine a_iadd (z := (((i : Nat) : Int) + 2)) dL_law_510 (w_ok (by omega) (by omega)) ?_
      refine a_sld (i + 2) dL_law_511 (by omega) (by omega) ?_
      rw [ha2]
      refine a_aload_n (j := 0) dL_law_512 rfl rfl (Nat.le_of_ble_eq_true rfl) ?_
      refine a_iload_n (j := 3) dL_law_513 rfl rfl ?_
      refine a_iconst dL_law_514 ⟨by decide, by decide⟩ ?_
      refine a_iadd (z := (((i : Nat) : Int) + 3)) dL_law_515 (w_ok (by omega) (by omega)) ?_
      refine a_sld (i + 3) dL_law_516 (by omega) (by omega) ?_
      rw [ha3]
      refine a_aload_n (j := 0) dL_law_517 rfl rfl (Nat.le_of_ble_eq_true rfl) ?_
      refine a_iload_n (j := 3) dL_law_518 rfl rfl ?_
      refine a_iconst dL_law_519 ⟨by decide, by decide⟩ ?_
      refine a_iadd (z := (((i : Nat) : Int) + 4)) dL_law_520 (w_ok (by omega) (by omega)) ?_
      refine a_sld (i + 4) dL_law_521 (by omega) (by omega) ?_
      rw [ha4]
      refine b_callV (d' := d - 1) (mc' := 0) (ms' := 0) (mc1 := mc) (ms1 := ms) (st := [vI (-1000000001)]) (b := 123) [vI ((t0 : Nat) : Int), vI a2, vI a3, vI a4] dL_law_522 mwX9_chances lkL_48 (by decide) rfl rc_X9 rfl (Nat.le_of_ble_eq_true rfl) (by omega) (by omega) (by omega) (c_X9_chances (v1 := (N 5)) (by omega)  (congrFun hN _) (show 0 ≤ (N 5) ∧ (N 5) ≤ 12 by omega) (fun t2_1_8 t12_2_8 => ?_) (fun t2_1_8 t12_2_8 => ?_) (fun t2_1_8 => ?_))
      · exfalso
        omega
      · exfalso
        omega
      · have t2_1_8 : ¬ (0 ≤ ((t0 : Nat) : Int) ∧ ((t0 : Nat) : Int) < (N 5)) := t2_1_8
        show Aj γ mL_law d mc ms Post 525 [(0, vK 0), (1, vA 0), (2, vA 123), (3, vI ((i : Nat) : Int))] [vI (-1000000001), vI (-1000000001)] (mk h τ)
        refine a_icmp_eq (tgt := 1668) dL_law_525 (by decide) (fun _ => ?_) (fun c => absurd c (by decide))
        exact kE h N J (IV_up (by omega) hI)
  · skip
    refine a_aload_n (j := 1) dL_law_477 rfl rfl (Nat.le_of_ble_eq_true rfl) ?_
    refine a_aload_n (j := 0) dL_law_478 rfl rfl (Nat.le_of_ble_eq_true rfl) ?_
    refine a_iload_n (j := 3) dL_law_479 rfl rfl ?_
    refine a_iconst dL_law_480 ⟨by decide, by decide⟩ ?_
    refine a_iadd (z := (((i : Nat) : Int) + 1)) dL_law_481 (w_ok (by omega) (by omega)) ?_
    refine a_sld (i + 1) dL_law_482 (by omega) (by omega) ?_
    rw [ha1]
    refine a_aload_n (j := 0) dL_law_483 rfl rfl (Nat.le_of_ble_eq_true rfl) ?_
    refine a_iload_n (j := 3) dL_law_484 rfl rfl ?_
    refine a_iconst dL_law_485 ⟨by decide, by decide⟩ ?_
    refine a_iadd (z := (((i : Nat) : Int) + 2)) dL_law_486 (w_ok (by omega) (by omega)) ?_
    refine a_sld (i + 2) dL_law_487 (by omega) (by omega) ?_
    rw [ha2]
    refine a_aload_n (j := 0) dL_law_488 rfl rfl (Nat.le_of_ble_eq_true rfl) ?_
    refine a_iload_n (j := 3) dL_law_489 rfl rfl ?_
    refine a_iconst dL_law_490 ⟨by decide, by decide⟩ ?_
    refine a_iadd (z := (((i : Nat) : Int) + 3)) dL_law_491 (w_ok (by omega) (by omega)) ?_
    refine a_sld (i + 3) dL_law_492 (by omega) (by omega) ?_
    rw [ha3]
    refine a_aload_n (j := 0) dL_law_493 rfl rfl (Nat.le_of_ble_eq_true rfl) ?_
    refine a_iload_n (j := 3) dL_law_494 rfl rfl ?_
    refine a_iconst dL_law_495 ⟨by decide, by decide⟩ ?_
    refine a_iadd (z := (((i : Nat) : Int) + 4)) dL_law_496 (w_ok (by omega) (by omega)) ?_
    refine a_sld (i + 4) dL_law_497 (by omega) (by omega) ?_
    rw [ha4]
    refine b_callV (d' := d - 1) (mc' := 0) (ms' := 0) (mc1 := mc) (ms1 := ms) (st := []) (b := 0) [vI a1, vI a2, vI a3, vI a4] dL_law_498 mwX8_chances lkL_45 (by decide) rfl rc_X8 rfl (Nat.le_of_ble_eq_true rfl) (by omega) (by omega) (by omega) (c_X8_chances (v1 := (N 5)) (v2 := (h 0 3)) (by omega)  hR.1.2.1 rfl (show 0 ≤ (N 5) ∧ (N 5) ≤ 12 by omega) (show 0 ≤ (h 0 3) ∧ (h 0 3) ≤ 1000 by omega) (fun t5_1_1 t15_2_1 => ?_) (fun t5_1_1 t15_2_1 => ?_) (fun t5_1_1 => ?_))
    · have t5_1_1 : 0 ≤ a1 ∧ a1 < (N 5) := t5_1_1
      have t15_2_1 : (0 ≤ a2 ∧ a2 ≤ 100) ∧ (0 ≤ a3 ∧ a3 ≤ 100) ∧ (0 ≤ a4 ∧ a4 ≤ 100) ∧ a2 + a3 + a4 ≤ 100 := t15_2_1
      show Aj γ mL_law d mc ms Post 501 [(0, vK 0), (1, vA 0), (2, vA 123), (3, vI ((i : Nat) : Int))] [vI (100 - a2 - a3 - a4)] (mk (up2 (up2 (up2 (up2 (up2 (up2 h ((8 + 2 * (Int.toNat a1)) + 1) 0 (((100 - a2) - a3) - a4)) ((8 + 2 * (Int.toNat a1)) + 1) 1 a2) ((8 + 2 * (Int.toNat a1)) + 1) 2 a3) ((8 + 2 * (Int.toNat a1)) + 1) 3 a4) 0 3 ((h 0 3) + 1)) 1 0 ((h 0 3) + 1)) τ)
      refine a_aload_n (j := 2) dL_law_501 rfl rfl (Nat.le_of_ble_eq_true rfl) ?_
      refine a_aload_n (j := 0) dL_law_502 rfl rfl (Nat.le_of_ble_eq_true rfl) ?_
      refine a_iload_n (j := 3) dL_law_503 rfl rfl ?_
      refine a_iconst dL_law_504 ⟨by decide, by decide⟩ ?_
      refine a_iadd (z := (((i : Nat) : Int) + 1)) dL_law_505 (w_ok (by omega) (by omega)) ?_
      refine a_sld (i + 1) dL_law_506 (by omega) (by omega) ?_
      rw [ha1]
      refine a_aload_n (j := 0) dL_law_507 rfl rfl (Nat.le_of_ble_eq_true rfl) ?_
      refine a_iload_n (j := 3) dL_law_508 rfl rfl ?_
      refine a_iconst dL_law_509 ⟨by decide, by decide⟩ ?_
      refine a_iadd (z := (((i : Nat) : Int) + 2)) dL_law_510 (w_ok (by omega) (by omega)) ?_
      refine a_sld (i + 2) dL_law_511 (by omega) (by omega) ?_
      rw [ha2]
      refine a_aload_n (j := 0) dL_law_512 rfl rfl (Nat.le_of_ble_eq_true rfl) ?_
      refine a_iload_n (j := 3) dL_law_513 rfl rfl ?_
      refine a_iconst dL_law_514 ⟨by decide, by decide⟩ ?_
      refine a_iadd (z := (((i : Nat) : Int) + 3)) dL_law_515 (w_ok (by omega) (by omega)) ?_
      refine a_sld (i + 3) dL_law_516 (by omega) (by omega) ?_
      rw [ha3]
      refine a_aload_n (j := 0) dL_law_517 rfl rfl (Nat.le_of_ble_eq_true rfl) ?_
      refine a_iload_n (j := 3) dL_law_518 rfl rfl ?_
      refine a_iconst dL_law_519 ⟨by decide, by decide⟩ ?_
      refine a_iadd (z := (((i : Nat) : Int) + 4)) dL_law_520 (w_ok (by omega) (by omega)) ?_
      refine a_sld (i + 4) dL_law_521 (by omega) (by omega) ?_
      rw [ha4]
      refine b_callV (d' := d - 1) (mc' := 0) (ms' := 0) (mc1 := mc) (ms1 := ms) (st := [vI (100 - a2 - a3 - a4)]) (b := 123) [vI a1, vI a2, vI a3, vI a4] dL_law_522 mwX9_chances lkL_48 (by decide) rfl rc_X9 rfl (Nat.le_of_ble_eq_true rfl) (by omega) (by omega) (by omega) (c_X9_chances (v1 := (N 5)) (by omega)  ((up2_ne (by omega)).trans ((up2_ne (by omega)).trans ((up2_ne (by omega)).trans ((up2_ne (by omega)).trans ((up2_ne (by omega)).trans ((up2_ne (by omega)).trans (congrFun hN _))))))) (show 0 ≤ (N 5) ∧ (N 5) ≤ 12 by omega) (fun t2_1_3 t12_2_3 => ?_) (fun t2_1_3 t12_2_3 => ?_) (fun t2_1_3 => ?_))
      · have t2_1_3 : 0 ≤ a1 ∧ a1 < (N 5) := t2_1_3
        have t12_2_3 : (0 ≤ a2 ∧ a2 ≤ 100) ∧ (0 ≤ a3 ∧ a3 ≤ 100) ∧ (0 ≤ a4 ∧ a4 ≤ 100) ∧ a2 + a3 + a4 ≤ 100 := t12_2_3
        show Aj γ mL_law d mc ms Post 525 [(0, vK 0), (1, vA 0), (2, vA 123), (3, vI ((i : Nat) : Int))] [vI (100 - a2 - a3 - a4), vI (100 - a2 - a3 - a4)] (mk (up2 (up2 (up2 (up2 (up2 (up2 (up2 (up2 (up2 (up2 (up2 h ((8 + 2 * (Int.toNat a1)) + 1) 0 (((100 - a2) - a3) - a4)) ((8 + 2 * (Int.toNat a1)) + 1) 1 a2) ((8 + 2 * (Int.toNat a1)) + 1) 2 a3) ((8 + 2 * (Int.toNat a1)) + 1) 3 a4) 0 3 ((h 0 3) + 1)) 1 0 ((h 0 3) + 1)) 124 (Int.toNat ((15 + (11 * a1)) + 7)) (((100 - a2) - a3) - a4)) 124 (Int.toNat (((15 + (11 * a1)) + 7) + 1)) a2) 124 (Int.toNat (((15 + (11 * a1)) + 7) + 2)) a3) 124 (Int.toNat (((15 + (11 * a1)) + 7) + 3)) a4) 123 4 0) τ)
        refine a_icmp_eq (tgt := 1668) dL_law_525 (by decide) (fun c525_5 => ?_) (fun c525_5 => ?_)
        · exfalso
          omega
        · refine a_iconst dL_law_528 ⟨by decide, by decide⟩ ?_
          exact a_zret dL_law_529 rfl (by first | exact Or.inl rfl | exact Or.inr rfl | omega) (by exfalso; omega)
      · exfalso
        omega
      · exfalso
        omega
    · have t5_1_1 : 0 ≤ a1 ∧ a1 < (N 5) := t5_1_1
      have t15_2_1 : ¬ ((0 ≤ a2 ∧ a2 ≤ 100) ∧ (0 ≤ a3 ∧ a3 ≤ 100) ∧ (0 ≤ a4 ∧ a4 ≤ 100) ∧ a2 + a3 + a4 ≤ 100) := t15_2_1
      show Aj γ mL_law d mc ms Post 501 [(0, vK 0), (1, vA 0), (2, vA 123), (3, vI ((i : Nat) : Int))] [vI (-1000000001)] (mk h τ)
      refine a_aload_n (j := 2) dL_law_501 rfl rfl (Nat.le_of_ble_eq_true rfl) ?_
      refine a_aload_n (j := 0) dL_law_502 rfl rfl (Nat.le_of_ble_eq_true rfl) ?_
      refine a_iload_n (j := 3) dL_law_503 rfl rfl ?_
      refine a_iconst dL_law_504 ⟨by decide, by decide⟩ ?_
      refine a_iadd (z := (((i : Nat) : Int) + 1)) dL_law_505 (w_ok (by omega) (by omega)) ?_
      refine a_sld (i + 1) dL_law_506 (by omega) (by omega) ?_
      rw [ha1]
      refine a_aload_n (j := 0) dL_law_507 rfl rfl (Nat.le_of_ble_eq_true rfl) ?_
      refine a_iload_n (j := 3) dL_law_508 rfl rfl ?_
      refine a_iconst dL_law_509 ⟨by decide, by decide⟩ ?_
      refine a_iadd (z := (((i : Nat) : Int) + 2)) dL_law_510 (w_ok (by omega) (by omega)) ?_
      refine a_sld (i + 2) dL_law_511 (by omega) (by omega) ?_
      rw [ha2]
      refine a_aload_n (j := 0) dL_law_512 rfl rfl (Nat.le_of_ble_eq_true rfl) ?_
      refine a_iload_n (j := 3) dL_law_513 rfl rfl ?_
      refine a_iconst dL_law_514 ⟨by decide, by decide⟩ ?_
      refine a_iadd (z := (((i : Nat) : Int) + 3)) dL_law_515 (w_ok (by omega) (by omega)) ?_
      refine a_sld (i + 3) dL_law_516 (by omega) (by omega) ?_
      rw [ha3]
      refine a_aload_n (j := 0) dL_law_517 rfl rfl (Nat.le_of_ble_eq_true rfl) ?_
      refine a_iload_n (j := 3) dL_law_518 rfl rfl ?_
      refine a_iconst dL_law_519 ⟨by decide, by decide⟩ ?_
      refine a_iadd (z := (((i : Nat) : Int) + 4)) dL_law_520 (w_ok (by omega) (by omega)) ?_
      refine a_sld (i + 4) dL_law_521 (by omega) (by omega) ?_
      rw [ha4]
      refine b_callV (d' := d - 1) (mc' := 0) (ms' := 0) (mc1 := mc) (ms1 := ms) (st := [vI (-1000000001)]) (b := 123) [vI a1, vI a2, vI a3, vI a4] dL_law_522 mwX9_chances lkL_48 (by decide) rfl rc_X9 rfl (Nat.le_of_ble_eq_true rfl) (by omega) (by omega) (by omega) (c_X9_chances (v1 := (N 5)) (by omega)  (congrFun hN _) (show 0 ≤ (N 5) ∧ (N 5) ≤ 12 by omega) (fun t2_1_6 t12_2_6 => ?_) (fun t2_1_6 t12_2_6 => ?_) (fun t2_1_6 => ?_))
      · exfalso
        omega
      · have t2_1_6 : 0 ≤ a1 ∧ a1 < (N 5) := t2_1_6
        have t12_2_6 : ¬ ((0 ≤ a2 ∧ a2 ≤ 100) ∧ (0 ≤ a3 ∧ a3 ≤ 100) ∧ (0 ≤ a4 ∧ a4 ≤ 100) ∧ a2 + a3 + a4 ≤ 100) := t12_2_6
        show Aj γ mL_law d mc ms Post 525 [(0, vK 0), (1, vA 0), (2, vA 123), (3, vI ((i : Nat) : Int))] [vI (-1000000001), vI (-1000000001)] (mk h τ)
        refine a_icmp_eq (tgt := 1668) dL_law_525 (by decide) (fun _ => ?_) (fun c => absurd c (by decide))
        exact kE h N J (IV_up (by omega) hI)
      · exfalso
        omega
    · have t5_1_1 : ¬ (0 ≤ a1 ∧ a1 < (N 5)) := t5_1_1
      show Aj γ mL_law d mc ms Post 501 [(0, vK 0), (1, vA 0), (2, vA 123), (3, vI ((i : Nat) : Int))] [vI (-1000000001)] (mk h τ)
      refine a_aload_n (j := 2) dL_law_501 rfl rfl (Nat.le_of_ble_eq_true rfl) ?_
      refine a_aload_n (j := 0) dL_law_502 rfl rfl (Nat.le_of_ble_eq_true rfl) ?_
      refine a_iload_n (j := 3) dL_law_503 rfl rfl ?_
      refine a_iconst dL_law_504 ⟨by decide, by decide⟩ ?_
      refine a_iadd (z := (((i : Nat) : Int) + 1)) dL_law_505 (w_ok (by omega) (by omega)) ?_
      refine a_sld (i + 1) dL_law_506 (by omega) (by omega) ?_
      rw [ha1]
      refine a_aload_n (j := 0) dL_law_507 rfl rfl (Nat.le_of_ble_eq_true rfl) ?_
      refine a_iload_n (j := 3) dL_law_508 rfl rfl ?_
      refine a_iconst dL_law_509 ⟨by decide, by decide⟩ ?_
      refine a_iadd (z := (((i : Nat) : Int) + 2)) dL_law_510 (w_ok (by omega) (by omega)) ?_
      refine a_sld (i + 2) dL_law_511 (by omega) (by omega) ?_
      rw [ha2]
      refine a_aload_n (j := 0) dL_law_512 rfl rfl (Nat.le_of_ble_eq_true rfl) ?_
      refine a_iload_n (j := 3) dL_law_513 rfl rfl ?_
      refine a_iconst dL_law_514 ⟨by decide, by decide⟩ ?_
      refine a_iadd (z := (((i : Nat) : Int) + 3)) dL_law_515 (w_ok (by omega) (by omega)) ?_
      refine a_sld (i + 3) dL_law_516 (by omega) (by omega) ?_
      rw [ha3]
      refine a_aload_n (j := 0) dL_law_517 rfl rfl (Nat.le_of_ble_eq_true rfl) ?_
      refine a_iload_n (j := 3) dL_law_518 rfl rfl ?_
      refine a_iconst dL_law_519 ⟨by decide, by decide⟩ ?_
      refine a_iadd (z := (((i : Nat) : Int) + 4)) dL_law_520 (w_ok (by omega) (by omega)) ?_
      refine a_sld (i + 4) dL_law_521 (by omega) (by omega) ?_
      rw [ha4]
      refine b_callV (d' := d - 1) (mc' := 0) (ms' := 0) (mc1 := mc) (ms1 := ms) (st := [vI (-1000000001)]) (b := 123) [vI a1, vI a2, vI a3, vI a4] dL_law_522 mwX9_chances lkL_48 (by decide) rfl rc_X9 rfl (Nat.le_of_ble_eq_true rfl) (by omega) (by omega) (by omega) (c_X9_chances (v1 := (N 5)) (by omega)  (congrFun hN _) (show 0 ≤ (N 5) ∧ (N 5) ≤ 12 by omega) (fun t2_1_8 t12_2_8 => ?_) (fun t2_1_8 t12_2_8 => ?_) (fun t2_1_8 => ?_))
      · exfalso
        omega
      · exfalso
        omega
      · have t2_1_8 : ¬ (0 ≤ a1 ∧ a1 < (N 5)) := t2_1_8
        show Aj γ mL_law d mc ms Post 525 [(0, vK 0), (1, vA 0), (2, vA 123), (3, vI ((i : Nat) : Int))] [vI (-1000000001), vI (-1000000001)] (mk h τ)
        refine a_icmp_eq (tgt := 1668) dL_law_525 (by decide) (fun _ => ?_) (fun c => absurd c (by decide))
        exact kE h N J (IV_up (by omega) hI)
