set_option maxHeartbeats 16000000 in
theorem s_as {γ : GT} {d mc ms n i : Nat} {N J : Nat → Int} {h : Nat → Nat → Int} {τ : List AC} {Post : Option AV → List AC → Prop} (hd : 30 ≤ d) (hn : n < 64) (hi : i + 5 < g_L γ) (hL : g_L γ ≤ 384) (hI : IVp n h τ N J) (kE : ∀ h' N' J', IVp (n + 1) h' τ N' J' → Aj γ mL_law d mc ms Post 1668 [(0, vK 0), (1, vA 0), (2, vA 123), (3, vI ((i : Nat) : Int))] [] (mk h' τ)) : Aj γ mL_law d mc ms Post 368 [(0, vK 0), (1, vA 0), (2, vA 123), (3, vI ((i : Nat) : Int))] [] (mk h τ) := by
  obtain ⟨hN, hJ, hX, hR, hk, hkK, hC, hRC, hst, hO⟩ := id hI
  have hsc := hX.1.1
  have hs1 := hsc.1
  have hs2 := hsc.2.1
  have hs3 := hsc.2.2.1
  have hs4 := hsc.2.2.2.1
  have hs5 := hsc.2.2.2.2
  have hs6 := hX.1.2.2.2.1
  have hx7 := hX.2.1
  have hx8 := hX.2.2.2.1
  obtain ⟨a1, ha1⟩ : ∃ z, (g_x γ (i + 1)).toInt = z := ⟨_, rfl⟩
  have ra1 : inI a1 := ha1 ▸ i32_rng _
  unfold inI at ra1
  obtain ⟨a2, ha2⟩ : ∃ z, (g_x γ (i + 2)).toInt = z := ⟨_, rfl⟩
  have ra2 : inI a2 := ha2 ▸ i32_rng _
  unfold inI at ra2
  by_cases hin : 0 ≤ a1 ∧ a1 < N 5
  · obtain ⟨t0, rfl⟩ : ∃ z : Nat, a1 = (z : Int) := ⟨Int.toNat a1, by omega⟩
    have hb9 := hX.1.2.2.1 t0 (by omega)
    unfold trR at hb9
    refine a_aload_n (j := 1) dL_law_368 rfl rfl (Nat.le_of_ble_eq_true rfl) ?_
    refine a_aload_n (j := 0) dL_law_369 rfl rfl (Nat.le_of_ble_eq_true rfl) ?_
    refine a_iload_n (j := 3) dL_law_370 rfl rfl ?_
    refine a_iconst dL_law_371 ⟨by decide, by decide⟩ ?_
    refine a_iadd (z := (((i : Nat) : Int) + 1)) dL_law_372 (w_ok (by omega) (by omega)) ?_
    refine a_sld (i + 1) dL_law_373 (by omega) (by omega) ?_
    rw [ha1]
    refine a_aload_n (j := 0) dL_law_374 rfl rfl (Nat.le_of_ble_eq_true rfl) ?_
    refine a_iload_n (j := 3) dL_law_375 rfl rfl ?_
    refine a_iconst dL_law_376 ⟨by decide, by decide⟩ ?_
    refine a_iadd (z := (((i : Nat) : Int) + 2)) dL_law_377 (w_ok (by omega) (by omega)) ?_
    refine a_sld (i + 2) dL_law_378 (by omega) (by omega) ?_
    rw [ha2]
    refine b_callV (d' := d - 1) (mc' := 0) (ms' := 0) (mc1 := mc) (ms1 := ms) (st := []) (b := 0) [vI ((t0 : Nat) : Int), vI a2] dL_law_379 mwX8_as lkL_32 (by decide) rfl rc_X8 rfl (Nat.le_of_ble_eq_true rfl) (by omega) (by omega) (by omega) (c_X8_as (v1 := (N 5)) (v2 := (N (15 + 11 * t0))) (v3 := (N (18 + 11 * t0))) (by omega)  hR.1.2.1 (hR.2.2.1 t0 (by omega)).1 (hR.2.2.1 t0 (by omega)).2.2.2.1 (show 0 ≤ (N 5) ∧ (N 5) ≤ 12 by omega) (show Im ((t0 : Nat) : Int) (N 5) (0 ≤ (N (15 + 11 * t0)) ∧ (N (15 + 11 * t0)) ≤ 5) from fun _ _ => (by omega)) (fun t5_1_1 t12_2_1 t34_3_1 => ?_) (fun t5_1_1 t12_2_1 t34_3_1 => ?_) (fun t5_1_1 t12_2_1 => ?_) (fun t5_1_1 => ?_))
    · have t5_1_1 : 0 ≤ ((t0 : Nat) : Int) ∧ ((t0 : Nat) : Int) < (N 5) := t5_1_1
      have t12_2_1 : 0 ≤ a2 ∧ a2 ≤ 5 := t12_2_1
      have t34_3_1 : (a2 = 0 ∨ (N (15 + 11 * t0)) = a2 ∨ (a2 = 1 ∧ (N (15 + 11 * t0)) = 3) ∨ (a2 = 2 ∧ (N (15 + 11 * t0)) = 4)) := t34_3_1
      show Aj γ mL_law d mc ms Post 382 [(0, vK 0), (1, vA 0), (2, vA 123), (3, vI ((i : Nat) : Int))] [vI (N (18 + 11 * t0))] (mk h τ)
      refine a_aload_n (j := 2) dL_law_382 rfl rfl (Nat.le_of_ble_eq_true rfl) ?_
      refine a_aload_n (j := 0) dL_law_383 rfl rfl (Nat.le_of_ble_eq_true rfl) ?_
      refine a_iload_n (j := 3) dL_law_384 rfl rfl ?_
      refine a_iconst dL_law_385 ⟨by decide, by decide⟩ ?_
      refine a_iadd (z := (((i : Nat) : Int) + 1)) dL_law_386 (w_ok (by omega) (by omega)) ?_
      refine a_sld (i + 1) dL_law_387 (by omega) (by omega) ?_
      rw [ha1]
      refine a_aload_n (j := 0) dL_law_388 rfl rfl (Nat.le_of_ble_eq_true rfl) ?_
      refine a_iload_n (j := 3) dL_law_389 rfl rfl ?_
      refine a_iconst dL_law_390 ⟨by decide, by decide⟩ ?_
      refine a_iadd (z := (((i : Nat) : Int) + 2)) dL_law_391 (w_ok (by omega) (by omega)) ?_
      refine a_sld (i + 2) dL_law_392 (by omega) (by omega) ?_
      rw [ha2]
      refine b_callV (d' := d - 1) (mc' := 0) (ms' := 0) (mc1 := mc) (ms1 := ms) (st := [vI (N (18 + 11 * t0))]) (b := 123) [vI ((t0 : Nat) : Int), vI a2] dL_law_393 mwX9_as lkL_35 (by decide) rfl rc_X9 rfl (Nat.le_of_ble_eq_true rfl) (by omega) (by omega) (by omega) (c_X9_as (v1 := (N 5)) (v2 := (N (15 + 11 * t0))) (v3 := (N (18 + 11 * t0))) (by omega)  (congrFun hN _) ((congrArg (h 124) (show (Int.toNat ((15 + (11 * ((t0 : Nat) : Int))) + 0)) = (15 + 11 * t0) by omega)).trans (congrFun hN _)) ((congrArg (h 124) (show (Int.toNat ((15 + (11 * ((t0 : Nat) : Int))) + 3)) = (18 + 11 * t0) by omega)).trans (congrFun hN _)) (show 0 ≤ (N 5) ∧ (N 5) ≤ 12 by omega) (fun t2_1_3 t11_2_3 t27_3_3 => ?_) (fun t2_1_3 t11_2_3 t27_3_3 => ?_) (fun t2_1_3 t11_2_3 => ?_) (fun t2_1_3 => ?_))
      · have t2_1_3 : 0 ≤ ((t0 : Nat) : Int) ∧ ((t0 : Nat) : Int) < (N 5) := t2_1_3
        have t11_2_3 : 0 ≤ a2 ∧ a2 ≤ 5 := t11_2_3
        have t27_3_3 : (a2 = 0 ∨ (N (15 + 11 * t0)) = a2 ∨ (a2 = 1 ∧ (N (15 + 11 * t0)) = 3) ∨ (a2 = 2 ∧ (N (15 + 11 * t0)) = 4)) := t27_3_3
        show Aj γ mL_law d mc ms Post 396 [(0, vK 0), (1, vA 0), (2, vA 123), (3, vI ((i : Nat) : Int))] [vI (N (18 + 11 * t0)), vI (N (18 + 11 * t0))] (mk h τ)
        refine a_icmp_eq (tgt := 1668) dL_law_396 (by decide) (fun c396_5 => ?_) (fun c396_5 => ?_)
        · exact kE h N J (IV_up (by omega) hI)
        · refine a_iconst dL_law_399 ⟨by decide, by decide⟩ ?_
          exact a_zret dL_law_400 rfl (by first | exact Or.inl rfl | exact Or.inr rfl | omega) (by exfalso; omega)
      · exfalso
        omega
      · exfalso
        omega
      · exfalso
        omega
    · have t5_1_1 : 0 ≤ ((t0 : Nat) : Int) ∧ ((t0 : Nat) : Int) < (N 5) := t5_1_1
      have t12_2_1 : 0 ≤ a2 ∧ a2 ≤ 5 := t12_2_1
      have t34_3_1 : ¬ ((a2 = 0 ∨ (N (15 + 11 * t0)) = a2 ∨ (a2 = 1 ∧ (N (15 + 11 * t0)) = 3) ∨ (a2 = 2 ∧ (N (15 + 11 * t0)) = 4))) := t34_3_1
      show Aj γ mL_law d mc ms Post 382 [(0, vK 0), (1, vA 0), (2, vA 123), (3, vI ((i : Nat) : Int))] [vI (-1000000012)] (mk h τ)
      refine a_aload_n (j := 2) dL_law_382 rfl rfl (Nat.le_of_ble_eq_true rfl) ?_
      refine a_aload_n (j := 0) dL_law_383 rfl rfl (Nat.le_of_ble_eq_true rfl) ?_
      refine a_iload_n (j := 3) dL_law_384 rfl rfl ?_
      refine a_iconst dL_law_385 ⟨by decide, by decide⟩ ?_
      refine a_iadd (z := (((i : Nat) : Int) + 1)) dL_law_386 (w_ok (by omega) (by omega)) ?_
      refine a_sld (i + 1) dL_law_387 (by omega) (by omega) ?_
      rw [ha1]
      refine a_aload_n (j := 0) dL_law_388 rfl rfl (Nat.le_of_ble_eq_true rfl) ?_
      refine a_iload_n (j := 3) dL_law_389 rfl rfl ?_
      refine a_iconst dL_law_390 ⟨by decide, by decide⟩ ?_
      refine a_iadd (z := (((i : Nat) : Int) + 2)) dL_law_391 (w_ok (by omega) (by omega)) ?_
      refine a_sld (i + 2) dL_law_392 (by omega) (by omega) ?_
      rw [ha2]
      refine b_callV (d' := d - 1) (mc' := 0) (ms' := 0) (mc1 := mc) (ms1 := ms) (st := [vI (-1000000012)]) (b := 123) [vI ((t0 : Nat) : Int), vI a2] dL_law_393 mwX9_as lkL_35 (by decide) rfl rc_X9 rfl (Nat.le_of_ble_eq_true rfl) (by omega) (by omega) (by omega) (c_X9_as (v1 := (N 5)) (v2 := (N (15 + 11 * t0))) (v3 := (N (18 + 11 * t0))) (by omega)  (congrFun hN _) ((congrArg (h 124) (show (Int.toNat ((15 + (11 * ((t0 : Nat) : Int))) + 0)) = (15 + 11 * t0) by omega)).trans (congrFun hN _)) ((congrArg (h 124) (show (Int.toNat ((15 + (11 * ((t0 : Nat) : Int))) + 3)) = (18 + 11 * t0) by omega)).trans (congrFun hN _)) (show 0 ≤ (N 5) ∧ (N 5) ≤ 12 by omega) (fun t2_1_6 t11_2_6 t27_3_6 => ?_) (fun t2_1_6 t11_2_6 t27_3_6 => ?_) (fun t2_1_6 t11_2_6 => ?_) (fun t2_1_6 => ?_))
      · exfalso
        omega
      · have t2_1_6 : 0 ≤ ((t0 : Nat) : Int) ∧ ((t0 : Nat) : Int) < (N 5) := t2_1_6
        have t11_2_6 : 0 ≤ a2 ∧ a2 ≤ 5 := t11_2_6
        have t27_3_6 : ¬ ((a2 = 0 ∨ (N (15 + 11 * t0)) = a2 ∨ (a2 = 1 ∧ (N (15 + 11 * t0)) = 3) ∨ (a2 = 2 ∧ (N (15 + 11 * t0)) = 4))) := t27_3_6
        show Aj γ mL_law d mc ms Post 396 [(0, vK 0), (1, vA 0), (2, vA 123), (3, vI ((i : Nat) : Int))] [vI (-1000000012), vI (-1000000012)] (mk h τ)
        refine a_icmp_eq (tgt := 1668) dL_law_396 (by decide) (fun _ => ?_) (fun c => absurd c (by decide))
        exact kE h N J (IV_up (by omega) hI)
      · exfalso
        omega
      · exfalso
        omega
    · have t5_1_1 : 0 ≤ ((t0 : Nat) : Int) ∧ ((t0 : Nat) : Int) < (N 5) := t5_1_1
      have t12_2_1 : ¬ (0 ≤ a2 ∧ a2 ≤ 5) := t12_2_1
      show Aj γ mL_law d mc ms Post 382 [(0, vK 0), (1, vA 0), (2, vA 123), (3, vI ((i : Nat) : Int))] [vI (-1000000001)] (mk h τ)
      refine a_aload_n (j := 2) dL_law_382 rfl rfl (Nat.le_of_ble_eq_true rfl) ?_
      refine a_aload_n (j := 0) dL_law_383 rfl rfl (Nat.le_of_ble_eq_true rfl) ?_
      refine a_iload_n (j := 3) dL_law_384 rfl rfl ?_
      refine a_iconst dL_law_385 ⟨by decide, by decide⟩ ?_
      refine a_iadd (z := (((i : Nat) : Int) + 1)) dL_law_386 (w_ok (by omega) (by omega)) ?_
      refine a_sld (i + 1) dL_law_387 (by omega) (by omega) ?_
      rw [ha1]
      refine a_aload_n (j := 0) dL_law_388 rfl rfl (Nat.le_of_ble_eq_true rfl) ?_
      refine a_iload_n (j := 3) dL_law_389 rfl rfl ?_
      refine a_iconst dL_law_390 ⟨by decide, by decide⟩ ?_
      refine a_iadd (z := (((i : Nat) : Int) + 2)) dL_law_391 (w_ok (by omega) (by omega)) ?_
      refine a_sld (i + 2) dL_law_392 (by omega) (by omega) ?_
      rw [ha2]
      refine b_callV (d' := d - 1) (mc' := 0) (ms' := 0) (mc1 := mc) (ms1 := ms) (st := [vI (-1000000001)]) (b := 123) [vI ((t0 : Nat) : Int), vI a2] dL_law_393 mwX9_as lkL_35 (by decide) rfl rc_X9 rfl (Nat.le_of_ble_eq_true rfl) (by omega) (by omega) (by omega) (c_X9_as (v1 := (N 5)) (v2 := (N (15 + 11 * t0))) (v3 := (N (18 + 11 * t0))) (by omega)  (congrFun hN _) ((congrArg (h 124) (show (Int.toNat ((15 + (11 * ((t0 : Nat) : Int))) + 0)) = (15 + 11 * t0) by omega)).trans (congrFun hN _)) ((congrArg (h 124) (show (Int.toNat ((15 + (11 * ((t0 : Nat) : Int))) + 3)) = (18 + 11 * t0) by omega)).trans (congrFun hN _)) (show 0 ≤ (N 5) ∧ (N 5) ≤ 12 by omega) (fun t2_1_8 t11_2_8 t27_3_8 => ?_) (fun t2_1_8 t11_2_8 t27_3_8 => ?_) (fun t2_1_8 t11_2_8 => ?_) (fun t2_1_8 => ?_))
      · exfalso
        omega
      · exfalso
        omega
      · have t2_1_8 : 0 ≤ ((t0 : Nat) : Int) ∧ ((t0 : Nat) : Int) < (N 5) := t2_1_8
        have t11_2_8 : ¬ (0 ≤ a2 ∧ a2 ≤ 5) := t11_2_8
        show Aj γ mL_law d mc ms Post 396 [(0, vK 0), (1, vA 0), (2, vA 123), (3, vI ((i : Nat) : Int))] [vI (-1000000001), vI (-1000000001)] (mk h τ)
        refine a_icmp_eq (tgt := 1668) dL_law_396 (by decide) (fun _ => ?_) (fun c => absurd c (by decide))
        exact kE h N J (IV_up (by omega) hI)
      · exfalso
        omega
    · have t5_1_1 : ¬ (0 ≤ ((t0 : Nat) : Int) ∧ ((t0 : Nat) : Int) < (N 5)) := t5_1_1
      show Aj γ mL_law d mc ms Post 382 [(0, vK 0), (1, vA 0), (2, vA 123), (3, vI ((i : Nat) : Int))] [vI (-1000000001)] (mk h τ)
      refine a_aload_n (j := 2) dL_law_382 rfl rfl (Nat.le_of_ble_eq_true rfl) ?_
      refine a_aload_n (j := 0) dL_law_383 rfl rfl (Nat.le_of_ble_eq_true rfl) ?_
      refine a_iload_n (j := 3) dL_law_384 rfl rfl ?_
      refine a_iconst dL_law_385 ⟨by decide, by decide⟩ ?_
      refine a_iadd (z := (((i : Nat) : Int) + 1)) dL_law_386 (w_ok (by omega) (by omega)) ?_
      refine a_sld (i + 1) dL_law_387 (by omega) (by omega) ?_
      rw [ha1]
      refine a_aload_n (j := 0) dL_law_388 rfl rfl (Nat.le_of_ble_eq_true rfl) ?_
      refine a_iload_n (j := 3) dL_law_389 rfl rfl ?_
      refine a_iconst dL_law_390 ⟨by decide, by decide⟩ ?_
      refine a_iadd (z := (((i : Nat) : Int) + 2)) dL_law_391 (w_ok (by omega) (by omega)) ?_
      refine a_sld (i + 2) dL_law_392 (by omega) (by omega) ?_
      rw [ha2]
      refine b_callV (d' := d - 1) (mc' := 0) (ms' := 0) (mc1 := mc) (ms1 := ms) (st := [vI (-1000000001)]) (b := 123) [vI ((t0 : Nat) : Int), vI a2] dL_law_393 mwX9_as lkL_35 (by decide) rfl rc_X9 rfl (Nat.le_of_ble_eq_true rfl) (by omega) (by omega) (by omega) (c_X9_as (v1 := (N 5)) (v2 := (N (15 + 11 * t0))) (v3 := (N (18 + 11 * t0))) (by omega)  (congrFun hN _) ((congrArg (h 124) (show (Int.toNat ((15 + (11 * ((t0 : Nat) : Int))) + 0)) = (15 + 11 * t0) by omega)).trans (congrFun hN _)) ((congrArg (h 124) (show (Int.toNat ((15 + (11 * ((t0 : Nat) : Int))) + 3)) = (18 + 11 * t0) by omega)).trans (congrFun hN _)) (show 0 ≤ (N 5) ∧ (N 5) ≤ 12 by omega) (fun t2_1_10 t11_2_10 t27_3_10 => ?_) (fun t2_1_10 t11_2_10 t27_3_10 => ?_) (fun t2_1_10 t11_2_10 => ?_) (fun t2_1_10 => ?_))
      · exfalso
        omega
      · exfalso
        omega
      · exfalso
        omega
      · have t2_1_10 : ¬ (0 ≤ ((t0 : Nat) : Int) ∧ ((t0 : Nat) : Int) < (N 5)) := t2_1_10
        show Aj γ mL_law d mc ms Post 396 [(0, vK 0), (1, vA 0), (2, vA 123), (3, vI ((i : Nat) : Int))] [vI (-1000000001), vI (-1000000001)] (mk h τ)
        refine a_icmp_eq (tgt := 1668) dL_law_396 (by decide) (fun _ => ?_) (fun c => absurd c (by decide))
        exact kE h N J (IV_up (by omega) hI)
  · skip
    refine a_aload_n (j := 1) dL_law_368 rfl rfl (Nat.le_of_ble_eq_true rfl) ?_
    refine a_aload_n (j := 0) dL_law_369 rfl rfl (Nat.le_of_ble_eq_true rfl) ?_
    refine a_iload_n (j := 3) dL_law_370 rfl rfl ?_
    refine a_iconst dL_law_371 ⟨by decide, by decide⟩ ?_
    refine a_iadd (z := (((i : Nat) : Int) + 1)) dL_law_372 (w_ok (by omega) (by omega)) ?_
    refine a_sld (i + 1) dL_law_373 (by omega) (by omega) ?_
    rw [ha1]
    refine a_aload_n (j := 0) dL_law_374 rfl rfl (Nat.le_of_ble_eq_true rfl) ?_
    refine a_iload_n (j := 3) dL_law_375 rfl rfl ?_
    refine a_iconst dL_law_376 ⟨by decide, by decide⟩ ?_
    refine a_iadd (z := (((i : Nat) : Int) + 2)) dL_law_377 (w_ok (by omega) (by omega)) ?_
    refine a_sld (i + 2) dL_law_378 (by omega) (by omega) ?_
    rw [ha2]
    refine b_callV (d' := d - 1) (mc' := 0) (ms' := 0) (mc1 := mc) (ms1 := ms) (st := []) (b := 0) [vI a1, vI a2] dL_law_379 mwX8_as lkL_32 (by decide) rfl rc_X8 rfl (Nat.le_of_ble_eq_true rfl) (by omega) (by omega) (by omega) (c_X8_as (v1 := (N 5)) (v2 := (h (8 + 2 * (Int.toNat a1)) 0)) (v3 := (h (8 + 2 * (Int.toNat a1)) 3)) (by omega)  hR.1.2.1 rfl rfl (show 0 ≤ (N 5) ∧ (N 5) ≤ 12 by omega) (show Im a1 (N 5) (0 ≤ (h (8 + 2 * (Int.toNat a1)) 0) ∧ (h (8 + 2 * (Int.toNat a1)) 0) ≤ 5) from fun _ _ => (by omega)) (fun t5_1_1 t12_2_1 t34_3_1 => ?_) (fun t5_1_1 t12_2_1 t34_3_1 => ?_) (fun t5_1_1 t12_2_1 => ?_) (fun t5_1_1 => ?_))
    · have t5_1_1 : 0 ≤ a1 ∧ a1 < (N 5) := t5_1_1
      have t12_2_1 : 0 ≤ a2 ∧ a2 ≤ 5 := t12_2_1
      have t34_3_1 : (a2 = 0 ∨ (h (8 + 2 * (Int.toNat a1)) 0) = a2 ∨ (a2 = 1 ∧ (h (8 + 2 * (Int.toNat a1)) 0) = 3) ∨ (a2 = 2 ∧ (h (8 + 2 * (Int.toNat a1)) 0) = 4)) := t34_3_1
      show Aj γ mL_law d mc ms Post 382 [(0, vK 0), (1, vA 0), (2, vA 123), (3, vI ((i : Nat) : Int))] [vI (h (8 + 2 * (Int.toNat a1)) 3)] (mk h τ)
      refine a_aload_n (j := 2) dL_law_382 rfl rfl (Nat.le_of_ble_eq_true rfl) ?_
      refine a_aload_n (j := 0) dL_law_383 rfl rfl (Nat.le_of_ble_eq_true rfl) ?_
      refine a_iload_n (j := 3) dL_law_384 rfl rfl ?_
      refine a_iconst dL_law_385 ⟨by decide, by decide⟩ ?_
      refine a_iadd (z := (((i : Nat) : Int) + 1)) dL_law_386 (w_ok (by omega) (by omega)) ?_
      refine a_sld (i + 1) dL_law_387 (by omega) (by omega) ?_
      rw [ha1]
      refine a_aload_n (j := 0) dL_law_388 rfl rfl (Nat.le_of_ble_eq_true rfl) ?_
      refine a_iload_n (j := 3) dL_law_389 rfl rfl ?_
      refine a_iconst dL_law_390 ⟨by decide, by decide⟩ ?_
      refine a_iadd (z := (((i : Nat) : Int) + 2)) dL_law_391 (w_ok (by omega) (by omega)) ?_
      refine a_sld (i + 2) dL_law_392 (by omega) (by omega) ?_
      rw [ha2]
      refine b_callV (d' := d - 1) (mc' := 0) (ms' := 0) (mc1 := mc) (ms1 := ms) (st := [vI (h (8 + 2 * (Int.toNat a1)) 3)]) (b := 123) [vI a1, vI a2] dL_law_393 mwX9_as lkL_35 (by decide) rfl rc_X9 rfl (Nat.le_of_ble_eq_true rfl) (by omega) (by omega) (by omega) (c_X9_as (v1 := (N 5)) (v2 := (N (Int.toNat ((15 + (11 * a1)) + 0)))) (v3 := (N (Int.toNat ((15 + (11 * a1)) + 3)))) (by omega)  (congrFun hN _) (congrFun hN _) (congrFun hN _) (show 0 ≤ (N 5) ∧ (N 5) ≤ 12 by omega) (fun t2_1_3 t11_2_3 t27_3_3 => ?_) (fun t2_1_3 t11_2_3 t27_3_3 => ?_) (fun t2_1_3 t11_2_3 => ?_) (fun t2_1_3 => ?_))
      · have t2_1_3 : 0 ≤ a1 ∧ a1 < (N 5) := t2_1_3
        have t11_2_3 : 0 ≤ a2 ∧ a2 ≤ 5 := t11_2_3
        have t27_3_3 : (a2 = 0 ∨ (N (Int.toNat ((15 + (11 * a1)) + 0))) = a2 ∨ (a2 = 1 ∧ (N (Int.toNat ((15 + (11 * a1)) + 0))) = 3) ∨ (a2 = 2 ∧ (N (Int.toNat ((15 + (11 * a1)) + 0))) = 4)) := t27_3_3
        show Aj γ mL_law d mc ms Post 396 [(0, vK 0), (1, vA 0), (2, vA 123), (3, vI ((i : Nat) : Int))] [vI (N (Int.toNat ((15 + (11 * a1)) + 3))), vI (h (8 + 2 * (Int.toNat a1)) 3)] (mk h τ)
        refine a_icmp_eq (tgt := 1668) dL_law_396 (by decide) (fun c396_5 => ?_) (fun c396_5 => ?_)
        · exact kE h N J (IV_up (by omega) hI)
        · refine a_iconst dL_law_399 ⟨by decide, by decide⟩ ?_
          exact a_zret dL_law_400 rfl (by first | exact Or.inl rfl | exact Or.inr rfl | omega) (by exfalso; omega)
      · have t2_1_3 : 0 ≤ a1 ∧ a1 < (N 5) := t2_1_3
        have t11_2_3 : 0 ≤ a2 ∧ a2 ≤ 5 := t11_2_3
        have t27_3_3 : ¬ ((a2 = 0 ∨ (N (Int.toNat ((15 + (11 * a1)) + 0))) = a2 ∨ (a2 = 1 ∧ (N (Int.toNat ((15 + (11 * a1)) + 0))) = 3) ∨ (a2 = 2 ∧ (N (Int.toNat ((15 + (11 * a1)) + 0))) = 4))) := t27_3_3
        show Aj γ mL_law d mc ms Post 396 [(0, vK 0), (1, vA 0), (2, vA 123), (3, vI ((i : Nat) : Int))] [vI (-1000000012), vI (h (8 + 2 * (Int.toNat a1)) 3)] (mk h τ)
        refine a_icmp_eq (tgt := 1668) dL_law_396 (by decide) (fun c396_6 => ?_) (fun c396_6 => ?_)
        · exact kE h N J (IV_up (by omega) hI)
        · refine a_iconst dL_law_399 ⟨by decide, by decide⟩ ?_
          exact a_zret dL_law_400 rfl (by first | exact Or.inl rfl | exact Or.inr rfl | omega) (by exfalso; omega)
      · exfalso
        omega
      · exfalso
        omega
    · have t5_1_1 : 0 ≤ a1 ∧ a1 < (N 5) := t5_1_1
      have t12_2_1 : 0 ≤ a2 ∧ a2 ≤ 5 := t12_2_1
      have t34_3_1 : ¬ ((a2 = 0 ∨ (h (8 + 2 * (Int.toNat a1)) 0) = a2 ∨ (a2 = 1 ∧ (h (8 + 2 * (Int.toNat a1)) 0) = 3) ∨ (a2 = 2 ∧ (h (8 + 2 * (Int.toNat a1)) 0) = 4))) := t34_3_1
      show Aj γ mL_law d mc ms Post 382 [(0, vK 0), (1, vA 0), (2, vA 123), (3, vI ((i : Nat) : Int))] [vI (-1000000012)] (mk h τ)
      refine a_aload_n (j := 2) dL_law_382 rfl rfl (Nat.le_of_ble_eq_true rfl) ?_
      refine a_aload_n (j := 0) dL_law_383 rfl rfl (Nat.le_of_ble_eq_true rfl) ?_
      refine a_iload_n (j := 3) dL_law_384 rfl rfl ?_
      refine a_iconst dL_law_385 ⟨by decide, by decide⟩ ?_
      refine a_iadd (z := (((i : Nat) : Int) + 1)) dL_law_386 (w_ok (by omega) (by omega)) ?_
      refine a_sld (i + 1) dL_law_387 (by omega) (by omega) ?_
      rw [ha1]
      refine a_aload_n (j := 0) dL_law_388 rfl rfl (Nat.le_of_ble_eq_true rfl) ?_
      refine a_iload_n (j := 3) dL_law_389 rfl rfl ?_
      refine a_iconst dL_law_390 ⟨by decide, by decide⟩ ?_
      refine a_iadd (z := (((i : Nat) : Int) + 2)) dL_law_391 (w_ok (by omega) (by omega)) ?_
      refine a_sld (i + 2) dL_law_392 (by omega) (by omega) ?_
      rw [ha2]
      refine b_callV (d' := d - 1) (mc' := 0) (ms' := 0) (mc1 := mc) (ms1 := ms) (st := [vI (-1000000012)]) (b := 123) [vI a1, vI a2] dL_law_393 mwX9_as lkL_35 (by decide) rfl rc_X9 rfl (Nat.le_of_ble_eq_true rfl) (by omega) (by omega) (by omega) (c_X9_as (v1 := (N 5)) (v2 := (N (Int.toNat ((15 + (11 * a1)) + 0)))) (v3 := (N (Int.toNat ((15 + (11 * a1)) + 3)))) (by omega)  (congrFun hN _) (congrFun hN _) (congrFun hN _) (show 0 ≤ (N 5) ∧ (N 5) ≤ 12 by omega) (fun t2_1_7 t11_2_7 t27_3_7 => ?_) (fun t2_1_7 t11_2_7 t27_3_7 => ?_) (fun t2_1_7 t11_2_7 => ?_) (fun t2_1_7 => ?_))
      · have t2_1_7 : 0 ≤ a1 ∧ a1 < (N 5) := t2_1_7
        have t11_2_7 : 0 ≤ a2 ∧ a2 ≤ 5 := t11_2_7
        have t27_3_7 : (a2 = 0 ∨ (N (Int.toNat ((15 + (11 * a1)) + 0))) = a2 ∨ (a2 = 1 ∧ (N (Int.toNat ((15 + (11 * a1)) + 0))) = 3) ∨ (a2 = 2 ∧ (N (Int.toNat ((15 + (11 * a1)) + 0))) = 4)) := t27_3_7
        show Aj γ mL_law d mc ms Post 396 [(0, vK 0), (1, vA 0), (2, vA 123), (3, vI ((i : Nat) : Int))] [vI (N (Int.toNat ((15 + (11 * a1)) + 3))), vI (-1000000012)] (mk h τ)
        refine a_icmp_eq (tgt := 1668) dL_law_396 (by decide) (fun c396_9 => ?_) (fun c396_9 => ?_)
        · exact kE h N J (IV_up (by omega) hI)
        · refine a_iconst dL_law_399 ⟨by decide, by decide⟩ ?_
          exact a_zret dL_law_400 rfl (by first | exact Or.inl rfl | exact Or.inr rfl | omega) (by exfalso; omega)
      · have t2_1_7 : 0 ≤ a1 ∧ a1 < (N 5) := t2_1_7
        have t11_2_7 : 0 ≤ a2 ∧ a2 ≤ 5 := t11_2_7
        have t27_3_7 : ¬ ((a2 = 0 ∨ (N (Int.toNat ((15 + (11 * a1)) + 0))) = a2 ∨ (a2 = 1 ∧ (N (Int.toNat ((15 + (11 * a1)) + 0))) = 3) ∨ (a2 = 2 ∧ (N (Int.toNat ((15 + (11 * a1)) + 0))) = 4))) := t27_3_7
        show Aj γ mL_law d mc ms Post 396 [(0, vK 0), (1, vA 0), (2, vA 123), (3, vI ((i : Nat) : Int))] [vI (-1000000012), vI (-1000000012)] (mk h τ)
        refine a_icmp_eq (tgt := 1668) dL_law_396 (by decide) (fun _ => ?_) (fun c => absurd c (by decide))
        exact kE h N J (IV_up (by omega) hI)
      · exfalso
        omega
      · exfalso
        omega
    · have t5_1_1 : 0 ≤ a1 ∧ a1 < (N 5) := t5_1_1
      have t12_2_1 : ¬ (0 ≤ a2 ∧ a2 ≤ 5) := t12_2_1
      show Aj γ mL_law d mc ms Post 382 [(0, vK 0), (1, vA 0), (2, vA 123), (3, vI ((i : Nat) : Int))] [vI (-1000000001)] (mk h τ)
      refine a_aload_n (j := 2) dL_law_382 rfl rfl (Nat.le_of_ble_eq_true rfl) ?_
      refine a_aload_n (j := 0) dL_law_383 rfl rfl (Nat.le_of_ble_eq_true rfl) ?_
      refine a_iload_n (j := 3) dL_law_384 rfl rfl ?_
      refine a_iconst dL_law_385 ⟨by decide, by decide⟩ ?_
      refine a_iadd (z := (((i : Nat) : Int) + 1)) dL_law_386 (w_ok (by omega) (by omega)) ?_
      refine a_sld (i + 1) dL_law_387 (by omega) (by omega) ?_
      rw [ha1]
      refine a_aload_n (j := 0) dL_law_388 rfl rfl (Nat.le_of_ble_eq_true rfl) ?_
      refine a_iload_n (j := 3) dL_law_389 rfl rfl ?_
      refine a_iconst dL_law_390 ⟨by decide, by decide⟩ ?_
      refine a_iadd (z := (((i : Nat) : Int) + 2)) dL_law_391 (w_ok (by omega) (by omega)) ?_
      refine a_sld (i + 2) dL_law_392 (by omega) (by omega) ?_
      rw [ha2]
      refine b_callV (d' := d - 1) (mc' := 0) (ms' := 0) (mc1 := mc) (ms1 := ms) (st := [vI (-1000000001)]) (b := 123) [vI a1, vI a2] dL_law_393 mwX9_as lkL_35 (by decide) rfl rc_X9 rfl (Nat.le_of_ble_eq_true rfl) (by omega) (by omega) (by omega) (c_X9_as (v1 := (N 5)) (v2 := (N (Int.toNat ((15 + (11 * a1)) + 0)))) (v3 := (N (Int.toNat ((15 + (11 * a1)) + 3)))) (by omega)  (congrFun hN _) (congrFun hN _) (congrFun hN _) (show 0 ≤ (N 5) ∧ (N 5) ≤ 12 by omega) (fun t2_1_10 t11_2_10 t27_3_10 => ?_) (fun t2_1_10 t11_2_10 t27_3_10 => ?_) (fun t2_1_10 t11_2_10 => ?_) (fun t2_1_10 => ?_))
      · exfalso
        omega
      · exfalso
        omega
      · have t2_1_10 : 0 ≤ a1 ∧ a1 < (N 5) := t2_1_10
        have t11_2_10 : ¬ (0 ≤ a2 ∧ a2 ≤ 5) := t11_2_10
        show Aj γ mL_law d mc ms Post 396 [(0, vK 0), (1, vA 0), (2, vA 123), (3, vI ((i : Nat) : Int))] [vI (-1000000001), vI (-1000000001)] (mk h τ)
        refine a_icmp_eq (tgt := 1668) dL_law_396 (by decide) (fun _ => ?_) (fun c => absurd c (by decide))
        exact kE h N J (IV_up (by omega) hI)
      · exfalso
        omega
    · have t5_1_1 : ¬ (0 ≤ a1 ∧ a1 < (N 5)) := t5_1_1
      show Aj γ mL_law d mc ms Post 382 [(0, vK 0), (1, vA 0), (2, vA 123), (3, vI ((i : Nat) : Int))] [vI (-1000000001)] (mk h τ)
      refine a_aload_n (j := 2) dL_law_382 rfl rfl (Nat.le_of_ble_eq_true rfl) ?_
      refine a_aload_n (j := 0) dL_law_383 rfl rfl (Nat.le_of_ble_eq_true rfl) ?_
      refine a_iload_n (j := 3) dL_law_384 rfl rfl ?_
      refine a_iconst dL_law_385 ⟨by decide, by decide⟩ ?_
      refine a_iadd (z := (((i : Nat) : Int) + 1)) dL_law_386 (w_ok (by omega) (by omega)) ?_
      refine a_sld (i + 1) dL_law_387 (by omega) (by omega) ?_
      rw [ha1]
      refine a_aload_n (j := 0) dL_law_388 rfl rfl (Nat.le_of_ble_eq_true rfl) ?_
      refine a_iload_n (j := 3) dL_law_389 rfl rfl ?_
      refine a_iconst dL_law_390 ⟨by decide, by decide⟩ ?_
      refine a_iadd (z := (((i : Nat) : Int) + 2)) dL_law_391 (w_ok (by omega) (by omega)) ?_
      refine a_sld (i + 2) dL_law_392 (by omega) (by omega) ?_
      rw [ha2]
      refine b_callV (d' := d - 1) (mc' := 0) (ms' := 0) (mc1 := mc) (ms1 := ms) (st := [vI (-1000000001)]) (b := 123) [vI a1, vI a2] dL_law_393 mwX9_as lkL_35 (by decide) rfl rc_X9 rfl (Nat.le_of_ble_eq_true rfl) (by omega) (by omega) (by omega) (c_X9_as (v1 := (N 5)) (v2 := (N (Int.toNat ((15 + (11 * a1)) + 0)))) (v3 := (N (Int.toNat ((15 + (11 * a1)) + 3)))) (by omega)  (congrFun hN _) (congrFun hN _) (congrFun hN _) (show 0 ≤ (N 5) ∧ (N 5) ≤ 12 by omega) (fun t2_1_12 t11_2_12 t27_3_12 => ?_) (fun t2_1_12 t11_2_12 t27_3_12 => ?_) (fun t2_1_12 t11_2_12 => ?_) (fun t2_1_12 => ?_))
      · exfalso
        omega
      · exfalso
        omega
      · exfalso
        omega
      · have t2_1_12 : ¬ (0 ≤ a1 ∧ a1 < (N 5)) := t2_1_12
        show Aj γ mL_law d mc ms Post 396 [(0, vK 0), (1, vA 0), (2, vA 123), (3, vI ((i : Nat) : Int))] [vI (-1000000001), vI (-1000000001)] (mk h τ)
        refine a_icmp_eq (tgt := 1668) dL_law_396 (by decide) (fun _ => ?_) (fun c => absurd c (by decide))
        exact kE h N J (IV_up (by omega) hI)
