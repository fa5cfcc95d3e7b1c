set_option maxHeartbeats 16000000 in
theorem s_turns {γ : GT} {d mc ms n i : Nat} {N J : Nat → Int} {h : Nat → Nat → Int} {τ : List AC} {Post : Option AV → List AC → Prop} (hd : 30 ≤ d) (hn : n < 64) (hi : i + 5 < g_L γ) (hL : g_L γ ≤ 384) (hI : IVp n h τ N J) (kE : ∀ h' N' J', IVp (n + 1) h' τ N' J' → Aj γ mL_law d mc ms Post 1668 [(0, vK 0), (1, vA 0), (2, vA 123), (3, vI ((i : Nat) : Int))] [] (mk h' τ)) : Aj γ mL_law d mc ms Post 401 [(0, vK 0), (1, vA 0), (2, vA 123), (3, vI ((i : Nat) : Int))] [] (mk h τ) := by
  obtain ⟨hN, hJ, hX, hR, hk, hkK, hC, hRC, hst, hO⟩ := id hI
  have hsc := hX.1.1
  have hs1 := hsc.1
  have hs2 := hsc.2.1
  have hs3 := hsc.2.2.1
  have hs4 := hsc.2.2.2.1
  have hs5 := hsc.2.2.2.2
  have hs6 := hX.1.2.2.2.1
  have hx7 := hX.2.1
  have hx8 := hX.2.2.2.1
  obtain ⟨a1, ha1⟩ : ∃ z, (g_x γ (i + 1)).toInt = z := ⟨_, rfl⟩
  have ra1 : inI a1 := ha1 ▸ i32_rng _
  unfold inI at ra1
  obtain ⟨a2, ha2⟩ : ∃ z, (g_x γ (i + 2)).toInt = z := ⟨_, rfl⟩
  have ra2 : inI a2 := ha2 ▸ i32_rng _
  unfold inI at ra2
  by_cases hin : 0 ≤ a1 ∧ a1 < N 5
  · obtain ⟨t0, rfl⟩ : ∃ z : Nat, a1 = (z : Int) := ⟨Int.toNat a1, by omega⟩
    have hb9 := hX.1.2.2.1 t0 (by omega)
    unfold trR at hb9
    refine a_aload_n (j := 1) dL_law_401 rfl rfl (Nat.le_of_ble_eq_true rfl) ?_
    refine a_aload_n (j := 0) dL_law_402 rfl rfl (Nat.le_of_ble_eq_true rfl) ?_
    refine a_iload_n (j := 3) dL_law_403 rfl rfl ?_
    refine a_iconst dL_law_404 ⟨by decide, by decide⟩ ?_
    refine a_iadd (z := (((i : Nat) : Int) + 1)) dL_law_405 (w_ok (by omega) (by omega)) ?_
    refine a_sld (i + 1) dL_law_406 (by omega) (by omega) ?_
    rw [ha1]
    refine a_aload_n (j := 0) dL_law_407 rfl rfl (Nat.le_of_ble_eq_true rfl) ?_
    refine a_iload_n (j := 3) dL_law_408 rfl rfl ?_
    refine a_iconst dL_law_409 ⟨by decide, by decide⟩ ?_
    refine a_iadd (z := (((i : Nat) : Int) + 2)) dL_law_410 (w_ok (by omega) (by omega)) ?_
    refine a_sld (i + 2) dL_law_411 (by omega) (by omega) ?_
    rw [ha2]
    refine b_callV (d' := d - 1) (mc' := 0) (ms' := 0) (mc1 := mc) (ms1 := ms) (st := []) (b := 0) [vI ((t0 : Nat) : Int), vI a2] dL_law_412 mwX8_turns lkL_36 (by decide) rfl rc_X8 rfl (Nat.le_of_ble_eq_true rfl) (by omega) (by omega) (by omega) (c_X8_turns (v1 := (N 5)) (v2 := (h 0 3)) (v3 := (N (15 + 11 * t0))) (by omega)  hR.1.2.1 rfl (hR.2.2.1 t0 (by omega)).1 (show 0 ≤ (N 5) ∧ (N 5) ≤ 12 by omega) (show 0 ≤ (h 0 3) ∧ (h 0 3) ≤ 1000 by omega) (fun t5_1_1 t12_2_1 => ?_) (fun t5_1_1 t12_2_1 => ?_) (fun t5_1_1 => ?_))
    · have t5_1_1 : 0 ≤ ((t0 : Nat) : Int) ∧ ((t0 : Nat) : Int) < (N 5) := t5_1_1
      have t12_2_1 : 0 ≤ a2 ∧ a2 ≤ 5 := t12_2_1
      show Aj γ mL_law d mc ms Post 415 [(0, vK 0), (1, vA 0), (2, vA 123), (3, vI ((i : Nat) : Int))] [vI (N (15 + 11 * t0))] (mk (up2 (up2 (up2 h (8 + 2 * t0) 0 a2) 0 3 ((h 0 3) + 1)) 1 0 ((h 0 3) + 1)) τ)
      refine a_aload_n (j := 2) dL_law_415 rfl rfl (Nat.le_of_ble_eq_true rfl) ?_
      refine a_aload_n (j := 0) dL_law_416 rfl rfl (Nat.le_of_ble_eq_true rfl) ?_
      refine a_iload_n (j := 3) dL_law_417 rfl rfl ?_
      refine a_iconst dL_law_418 ⟨by decide, by decide⟩ ?_
      refine a_iadd (z := (((i : Nat) : Int) + 1)) dL_law_419 (w_ok (by omega) (by omega)) ?_
      refine a_sld (i + 1) dL_law_420 (by omega) (by omega) ?_
      rw [ha1]
      refine a_aload_n (j := 0) dL_law_421 rfl rfl (Nat.le_of_ble_eq_true rfl) ?_
      refine a_iload_n (j := 3) dL_law_422 rfl rfl ?_
      refine a_iconst dL_law_423 ⟨by decide, by decide⟩ ?_
      refine a_iadd (z := (((i : Nat) : Int) + 2)) dL_law_424 (w_ok (by omega) (by omega)) ?_
      refine a_sld (i + 2) dL_law_425 (by omega) (by omega) ?_
      rw [ha2]
      refine b_callV (d' := d - 1) (mc' := 0) (ms' := 0) (mc1 := mc) (ms1 := ms) (st := [vI (N (15 + 11 * t0))]) (b := 123) [vI ((t0 : Nat) : Int), vI a2] dL_law_426 mwX9_turns lkL_39 (by decide) rfl rc_X9 rfl (Nat.le_of_ble_eq_true rfl) (by omega) (by omega) (by omega) (c_X9_turns (v1 := (N 5)) (v2 := (N (15 + 11 * t0))) (by omega)  ((up2_ne (by omega)).trans ((up2_ne (by omega)).trans ((up2_ne (by omega)).trans (congrFun hN _)))) ((up2_ne (by omega)).trans ((up2_ne (by omega)).trans ((up2_ne (by omega)).trans ((congrArg (h 124) (show (Int.toNat ((15 + (11 * ((t0 : Nat) : Int))) + 0)) = (15 + 11 * t0) by omega)).trans (congrFun hN _))))) (show 0 ≤ (N 5) ∧ (N 5) ≤ 12 by omega) (fun t2_1_3 t11_2_3 => ?_) (fun t2_1_3 t11_2_3 => ?_) (fun t2_1_3 => ?_))
      · have t2_1_3 : 0 ≤ ((t0 : Nat) : Int) ∧ ((t0 : Nat) : Int) < (N 5) := t2_1_3
        have t11_2_3 : 0 ≤ a2 ∧ a2 ≤ 5 := t11_2_3
        show Aj γ mL_law d mc ms Post 429 [(0, vK 0), (1, vA 0), (2, vA 123), (3, vI ((i : Nat) : Int))] [vI (N (15 + 11 * t0)), vI (N (15 + 11 * t0))] (mk (up2 (up2 (up2 (up2 (up2 h (8 + 2 * t0) 0 a2) 0 3 ((h 0 3) + 1)) 1 0 ((h 0 3) + 1)) 124 (Int.toNat ((15 + (11 * ((t0 : Nat) : Int))) + 0)) a2) 123 4 0) τ)
        refine a_icmp_eq (tgt := 1668) dL_law_429 (by decide) (fun c429_5 => ?_) (fun c429_5 => ?_)
        · generalize hHH : (up2 (up2 (up2 (up2 (up2 h (8 + 2 * t0) 0 a2) 0 3 ((h 0 3) + 1)) 1 0 ((h 0 3) + 1)) 124 (Int.toNat ((15 + (11 * ((t0 : Nat) : Int))) + 0)) a2) 123 4 0) = H
          have c0_ : H (8 + 2 * t0) 0 = a2 := by rw [← hHH]; exact ((up2_ne (by omega)).trans ((up2_ne (by omega)).trans ((up2_ne (by omega)).trans ((up2_ne (by omega)).trans (up2_hit (by omega) (by omega))))))
          have f15_ : H 124 (15 + 11 * t0) = a2 := by rw [← hHH]; exact ((up2_ne (by omega)).trans (up2_hit (by omega) (by omega)))
          have c1_ : H (8 + 2 * t0) 1 = h (8 + 2 * t0) 1 := by rw [← hHH]; exact ((up2_ne (by omega)).trans ((up2_ne (by omega)).trans ((up2_ne (by omega)).trans ((up2_ne (by omega)).trans ((up2_ne (by omega)).trans rfl)))))
          have f16_ : H 124 (16 + 11 * t0) = N (16 + 11 * t0) := by rw [← hHH]; exact ((up2_ne (by omega)).trans ((up2_ne (by omega)).trans ((up2_ne (by omega)).trans ((up2_ne (by omega)).trans ((up2_ne (by omega)).trans (congrFun hN _))))))
          have c2_ : H (8 + 2 * t0) 2 = h (8 + 2 * t0) 2 := by rw [← hHH]; exact ((up2_ne (by omega)).trans ((up2_ne (by omega)).trans ((up2_ne (by omega)).trans ((up2_ne (by omega)).trans ((up2_ne (by omega)).trans rfl)))))
          have f17_ : H 124 (17 + 11 * t0) = N (17 + 11 * t0) := by rw [← hHH]; exact ((up2_ne (by omega)).trans ((up2_ne (by omega)).trans ((up2_ne (by omega)).trans ((up2_ne (by omega)).trans ((up2_ne (by omega)).trans (congrFun hN _))))))
          have c3_ : H (8 + 2 * t0) 3 = h (8 + 2 * t0) 3 := by rw [← hHH]; exact ((up2_ne (by omega)).trans ((up2_ne (by omega)).trans ((up2_ne (by omega)).trans ((up2_ne (by omega)).trans ((up2_ne (by omega)).trans rfl)))))
          have f18_ : H 124 (18 + 11 * t0) = N (18 + 11 * t0) := by rw [← hHH]; exact ((up2_ne (by omega)).trans ((up2_ne (by omega)).trans ((up2_ne (by omega)).trans ((up2_ne (by omega)).trans ((up2_ne (by omega)).trans (congrFun hN _))))))
          have c4_ : H (8 + 2 * t0) 4 = h (8 + 2 * t0) 4 := by rw [← hHH]; exact ((up2_ne (by omega)).trans ((up2_ne (by omega)).trans ((up2_ne (by omega)).trans ((up2_ne (by omega)).trans ((up2_ne (by omega)).trans rfl)))))
          have f19_ : H 124 (19 + 11 * t0) = N (19 + 11 * t0) := by rw [← hHH]; exact ((up2_ne (by omega)).trans ((up2_ne (by omega)).trans ((up2_ne (by omega)).trans ((up2_ne (by omega)).trans ((up2_ne (by omega)).trans (congrFun hN _))))))
          have c5_ : H (8 + 2 * t0) 5 = h (8 + 2 * t0) 5 := by rw [← hHH]; exact ((up2_ne (by omega)).trans ((up2_ne (by omega)).trans ((up2_ne (by omega)).trans ((up2_ne (by omega)).trans ((up2_ne (by omega)).trans rfl)))))
          have f20_ : H 124 (20 + 11 * t0) = N (20 + 11 * t0) := by rw [← hHH]; exact ((up2_ne (by omega)).trans ((up2_ne (by omega)).trans ((up2_ne (by omega)).trans ((up2_ne (by omega)).trans ((up2_ne (by omega)).trans (congrFun hN _))))))
          have c6_ : H (8 + 2 * t0) 6 = h (8 + 2 * t0) 6 := by rw [← hHH]; exact ((up2_ne (by omega)).trans ((up2_ne (by omega)).trans ((up2_ne (by omega)).trans ((up2_ne (by omega)).trans ((up2_ne (by omega)).trans rfl)))))
          have f21_ : H 124 (21 + 11 * t0) = N (21 + 11 * t0) := by rw [← hHH]; exact ((up2_ne (by omega)).trans ((up2_ne (by omega)).trans ((up2_ne (by omega)).trans ((up2_ne (by omega)).trans ((up2_ne (by omega)).trans (congrFun hN _))))))
          have f4_ : H 124 4 = N 4 := by rw [← hHH]; exact ((up2_ne (by omega)).trans ((up2_ne (by omega)).trans ((up2_ne (by omega)).trans ((up2_ne (by omega)).trans ((up2_ne (by omega)).trans (congrFun hN _))))))
          have e0_ : H ((8 + 2 * t0) + 1) 0 = h ((8 + 2 * t0) + 1) 0 := by rw [← hHH]; exact ((up2_ne (by omega)).trans ((up2_ne (by omega)).trans ((up2_ne (by omega)).trans ((up2_ne (by omega)).trans ((up2_ne (by omega)).trans rfl)))))
          have g0_ : H 124 (22 + 11 * t0 + 0) = N (22 + 11 * t0 + 0) := by rw [← hHH]; exact ((up2_ne (by omega)).trans ((up2_ne (by omega)).trans ((up2_ne (by omega)).trans ((up2_ne (by omega)).trans ((up2_ne (by omega)).trans (congrFun hN _))))))
          have e1_ : H ((8 + 2 * t0) + 1) 1 = h ((8 + 2 * t0) + 1) 1 := by rw [← hHH]; exact ((up2_ne (by omega)).trans ((up2_ne (by omega)).trans ((up2_ne (by omega)).trans ((up2_ne (by omega)).trans ((up2_ne (by omega)).trans rfl)))))
          have g1_ : H 124 (22 + 11 * t0 + 1) = N (22 + 11 * t0 + 1) := by rw [← hHH]; exact ((up2_ne (by omega)).trans ((up2_ne (by omega)).trans ((up2_ne (by omega)).trans ((up2_ne (by omega)).trans ((up2_ne (by omega)).trans (congrFun hN _))))))
          have e2_ : H ((8 + 2 * t0) + 1) 2 = h ((8 + 2 * t0) + 1) 2 := by rw [← hHH]; exact ((up2_ne (by omega)).trans ((up2_ne (by omega)).trans ((up2_ne (by omega)).trans ((up2_ne (by omega)).trans ((up2_ne (by omega)).trans rfl)))))
          have g2_ : H 124 (22 + 11 * t0 + 2) = N (22 + 11 * t0 + 2) := by rw [← hHH]; exact ((up2_ne (by omega)).trans ((up2_ne (by omega)).trans ((up2_ne (by omega)).trans ((up2_ne (by omega)).trans ((up2_ne (by omega)).trans (congrFun hN _))))))
          have e3_ : H ((8 + 2 * t0) + 1) 3 = h ((8 + 2 * t0) + 1) 3 := by rw [← hHH]; exact ((up2_ne (by omega)).trans ((up2_ne (by omega)).trans ((up2_ne (by omega)).trans ((up2_ne (by omega)).trans ((up2_ne (by omega)).trans rfl)))))
          have g3_ : H 124 (22 + 11 * t0 + 3) = N (22 + 11 * t0 + 3) := by rw [← hHH]; exact ((up2_ne (by omega)).trans ((up2_ne (by omega)).trans ((up2_ne (by omega)).trans ((up2_ne (by omega)).trans ((up2_ne (by omega)).trans (congrFun hN _))))))
          have f22_ : H 124 (22 + 11 * t0) = N (22 + 11 * t0) := by rw [← hHH]; exact ((up2_ne (by omega)).trans ((up2_ne (by omega)).trans ((up2_ne (by omega)).trans ((up2_ne (by omega)).trans ((up2_ne (by omega)).trans (congrFun hN _))))))
          have hb0 := hX.1.2.2.1 t0 (by omega)
          unfold trR at hb0
          have hw0 := hR.2.2.1 t0 (by omega)
          unfold trW at hw0
          have hr : trR (H 124) t0 := by unfold trR; rw [f4_, f15_, f16_, f17_, f18_, f19_, f20_, f21_, f22_, g1_, g2_, g3_]; omega
          have hw : trW H (8 + 2 * t0) (H 124) t0 := ⟨(by rw [c0_, f15_] <;> omega), c1_.trans (hw0.2.1.trans f16_.symm), c2_.trans (hw0.2.2.1.trans f17_.symm), c3_.trans (hw0.2.2.2.1.trans f18_.symm), c4_.trans (hw0.2.2.2.2.1.trans f19_.symm), c5_.trans (hw0.2.2.2.2.2.1.trans f20_.symm), c6_.trans (hw0.2.2.2.2.2.2.1.trans (congrArg hsF f21_.symm)), fun s hs => by
            rcases (show s = 0 ∨ s = 1 ∨ s = 2 ∨ s = 3 by omega) with rfl | rfl | rfl | rfl
            · exact e0_.trans ((hw0.2.2.2.2.2.2.2 0 (by decide)).trans g0_.symm)
            · exact e1_.trans ((hw0.2.2.2.2.2.2.2 1 (by decide)).trans g1_.symm)
            · exact e2_.trans ((hw0.2.2.2.2.2.2.2 2 (by decide)).trans g2_.symm)
            · exact e3_.trans ((hw0.2.2.2.2.2.2.2 3 (by decide)).trans g3_.symm)⟩
          have a1_ : ∀ k : Nat, k ≠ 0 → H 1 k = h 1 k := fun k q0_ => by rw [← hHH]; exact ((up2_ne (by omega)).trans ((up2_ne (by omega)).trans ((up2_ne (by omega)).trans ((up2_ne (by omega)).trans ((up2_ne (by omega)).trans rfl)))))
          have a5_ : ∀ c, 2 ≤ c → c < 32 → c ≠ 8 + 2 * t0 → c ≠ 8 + 2 * t0 + 1 → H c = h c := fun c q0_ q1_ q2_ q3_ => by rw [← hHH]; exact ((up2_row (by omega)).trans ((up2_row (by omega)).trans ((up2_row (by omega)).trans ((up2_row (by omega)).trans ((up2_row (by omega)).trans rfl)))))
          have n3_ : ∀ k : Nat, (k < 15 + 11 * t0 ∨ 15 + 11 * t0 + 11 ≤ k) → H 124 k = N k := fun k q0_ => by rw [← hHH]; exact ((up2_ne (by omega)).trans ((up2_ne (by omega)).trans ((up2_ne (by omega)).trans ((up2_ne (by omega)).trans ((up2_ne (by omega)).trans (congrFun hN _))))))
          have hW := W_tr (h := h) (h' := H) (t0 := t0) hX hR (by omega) a1_ a5_ n3_ hr hw
          have gF : ∀ c, ¬ inW c → H c = h c := fun c q0_ => by unfold inW at q0_; rw [← hHH]; exact ((up2_row (by omega)).trans ((up2_row (by omega)).trans ((up2_row (by omega)).trans ((up2_row (by omega)).trans ((up2_row (by omega)).trans rfl)))))
          have g0 : ∀ k : Nat, k ≠ 3 → H 0 k = h 0 k := fun k q0_ => by rw [← hHH]; exact ((up2_ne (by omega)).trans ((up2_ne (by omega)).trans ((up2_ne (by omega)).trans ((up2_ne (by omega)).trans ((up2_ne (by omega)).trans rfl)))))
          have e03 : H 0 3 = ((h 0 3) + 1) := by rw [← hHH]; exact ((up2_ne (by omega)).trans ((up2_ne (by omega)).trans ((up2_ne (by omega)).trans (up2_hit (by omega) (by omega)))))
          have e10 : H 1 0 = ((h 0 3) + 1) := by rw [← hHH]; exact ((up2_ne (by omega)).trans ((up2_ne (by omega)).trans (up2_hit (by omega) (by omega))))
          have g3 : ∀ k : Nat, k ≠ 4 → H 123 k = h 123 k := fun k q0_ => by rw [← hHH]; exact ((up2_ne (by omega)).trans ((up2_ne (by omega)).trans ((up2_ne (by omega)).trans ((up2_ne (by omega)).trans ((up2_ne (by omega)).trans rfl)))))
          have e4 : H 123 4 = 0 := by rw [← hHH]; exact (up2_hit (by omega) (by omega))
          exact kE H (H 124) J (IV_s hI gF g0 e03 e10 g3 e4 rfl hW.1 hW.2)
        · refine a_iconst dL_law_432 ⟨by decide, by decide⟩ ?_
          exact a_zret dL_law_433 rfl (by first | exact Or.inl rfl | exact Or.inr rfl | omega) (by exfalso; omega)
      · exfalso
        omega
      · exfalso
        omega
    · have t5_1_1 : 0 ≤ ((t0 : Nat) : Int) ∧ ((t0 : Nat) : Int) < (N 5) := t5_1_1
      have t12_2_1 : ¬ (0 ≤ a2 ∧ a2 ≤ 5) := t12_2_1
      show Aj γ mL_law d mc ms Post 415 [(0, vK 0), (1, vA 0), (2, vA 123), (3, vI ((i : Nat) : Int))] [vI (-1000000001)] (mk h τ)
      refine a_aload_n (j := 2) dL_law_415 rfl rfl (Nat.le_of_ble_eq_true rfl) ?_
      refine a_aload_n (j := 0) dL_law_416 rfl rfl (Nat.le_of_ble_eq_true rfl) ?_
      refine a_iload_n (j := 3) dL_law_417 rfl rfl ?_
      refine a_iconst dL_law_418 ⟨by decide, by decide⟩ ?_
      refine a_iadd (z := (((i : Nat) : Int) + 1)) dL_law_419 (w_ok (by omega) (by omega)) ?_
      refine a_sld (i + 1) dL_law_420 (by omega) (by omega) ?_
      rw [ha1]
      refine a_aload_n (j := 0) dL_law_421 rfl rfl (Nat.le_of_ble_eq_true rfl) ?_
      refine a_iload_n (j := 3) dL_law_422 rfl rfl ?_
      refine a_iconst dL_law_423 ⟨by decide, by decide⟩ ?_
      refine a_iadd (z := (((i : Nat) : Int) + 2)) dL_law_424 (w_ok (by omega) (by omega)) ?_
      refine a_sld (i + 2) dL_law_425 (by omega) (by omega) ?_
      rw [ha2]
      refine b_callV (d' := d - 1) (mc' := 0) (ms' := 0) (mc1 := mc) (ms1 := ms) (st := [vI (-1000000001)]) (b := 123) [vI ((t0 : Nat) : Int), vI a2] dL_law_426 mwX9_turns lkL_39 (by decide) rfl rc_X9 rfl (Nat.le_of_ble_eq_true rfl) (by omega) (by omega) (by omega) (c_X9_turns (v1 := (N 5)) (v2 := (N (15 + 11 * t0))) (by omega)  (congrFun hN _) ((congrArg (h 124) (show (Int.toNat ((15 + (11 * ((t0 : Nat) : Int))) + 0)) = (15 + 11 * t0) by omega)).trans (congrFun hN _)) (show 0 ≤ (N 5) ∧ (N 5) ≤ 12 by omega) (fun t2_1_6 t11_2_6 => ?_) (fun t2_1_6 t11_2_6 => ?_) (fun t2_1_6 => ?_))
      · exfalso
        omega
      · have t2_1_6 : 0 ≤ ((t0 : Nat) : Int) ∧ ((t0 : Nat) : Int) < (N 5) := t2_1_6
        have t11_2_6 : ¬ (0 ≤ a2 ∧ a2 ≤ 5) := t11_2_6
        show Aj γ mL_law d mc ms Post 429 [(0, vK 0), (1, vA 0), (2, vA 123), (3, vI ((i : Nat) : Int))] [vI (-1000000001), vI (-1000000001)] (mk h τ)
        refine a_icmp_eq (tgt := 1668) dL_law_429 (by decide) (fun _ => ?_) (fun c => absurd c (by decide))
        exact kE h N J (IV_up (by omega) hI)
      · exfalso
        omega
    · have t5_1_1 : ¬ (0 ≤ ((t0 : Nat) : Int) ∧ ((t0 : Nat) : Int) < (N 5)) := t5_1_1
      show Aj γ mL_law d mc ms Post 415 [(0, vK 0), (1, vA 0), (2, vA 123), (3, vI ((i : Nat) : Int))] [vI (-1000000001)] (mk h τ)
      refine a_aload_n (j := 2) dL_law_415 rfl rfl (Nat.le_of_ble_eq_true rfl) ?_
      refine a_aload_n (j := 0) dL_law_416 rfl rfl (Nat.le_of_ble_eq_true rfl) ?_
      refine a_iload_n (j := 3) dL_law_417 rfl rfl ?_
      refine a_iconst dL_law_418 ⟨by decide, by decide⟩ ?_
      refine a_iadd (z := (((i : Nat) : Int) + 1)) dL_law_419 (w_ok (by omega) (by omega)) ?_
      refine a_sld (i + 1) dL_law_420 (by omega) (by omega) ?_
      rw [ha1]
      refine a_aload_n (j := 0) dL_law_421 rfl rfl (Nat.le_of_ble_eq_true rfl) ?_
      refine a_iload_n (j := 3) dL_law_422 rfl rfl ?_
      refine a_iconst dL_law_423 ⟨by decide, by decide⟩ ?_
      refine a_iadd (z := (((i : Nat) : Int) + 2)) dL_law_424 (w_ok (by omega) (by omega)) ?_
      refine a_sld (i + 2) dL_law_425 (by omega) (by omega) ?_
      rw [ha2]
      refine b_callV (d' := d - 1) (mc' := 0) (ms' := 0) (mc1 := mc) (ms1 := ms) (st := [vI (-1000000001)]) (b := 123) [vI ((t0 : Nat) : Int), vI a2] dL_law_426 mwX9_turns lkL_39 (by decide) rfl rc_X9 rfl (Nat.le_of_ble_eq_true rfl) (by omega) (by omega) (by omega) (c_X9_turns (v1 := (N 5)) (v2 := (N (15 + 11 * t0))) (by omega)  (congrFun hN _) ((congrArg (h 124) (show (Int.toNat ((15 + (11 * ((t0 : Nat) : Int))) + 0)) = (15 + 11 * t0) by omega)).trans (congrFun hN _)) (show 0 ≤ (N 5) ∧ (N 5) ≤ 12 by omega) (fun t2_1_8 t11_2_8 => ?_) (fun t2_1_8 t11_2_8 => ?_) (fun t2_1_8 => ?_))
      · exfalso
        omega
      · exfalso
        omega
      · have t2_1_8 : ¬ (0 ≤ ((t0 : Nat) : Int) ∧ ((t0 : Nat) : Int) < (N 5)) := t2_1_8
        show Aj γ mL_law d mc ms Post 429 [(0, vK 0), (1, vA 0), (2, vA 123), (3, vI ((i : Nat) : Int))] [vI (-1000000001), vI (-1000000001)] (mk h τ)
        refine a_icmp_eq (tgt := 1668) dL_law_429 (by decide) (fun _ => ?_) (fun c => absurd c (by decide))
        exact kE h N J (IV_up (by omega) hI)
  · skip
    refine a_aload_n (j := 1) dL_law_401 rfl rfl (Nat.le_of_ble_eq_true rfl) ?_
    refine a_aload_n (j := 0) dL_law_402 rfl rfl (Nat.le_of_ble_eq_true rfl) ?_
    refine a_iload_n (j := 3) dL_law_403 rfl rfl ?_
    refine a_iconst dL_law_404 ⟨by decide, by decide⟩ ?_
    refine a_iadd (z := (((i : Nat) : Int) + 1)) dL_law_405 (w_ok (by omega) (by omega)) ?_
    refine a_sld (i + 1) dL_law_406 (by omega) (by omega) ?_
    rw [ha1]
    refine a_aload_n (j := 0) dL_law_407 rfl rfl (Nat.le_of_ble_eq_true rfl) ?_
    refine a_iload_n (j := 3) dL_law_408 rfl rfl ?_
    refine a_iconst dL_law_409 ⟨by decide, by decide⟩ ?_
    refine a_iadd (z := (((i : Nat) : Int) + 2)) dL_law_410 (w_ok (by omega) (by omega)) ?_
    refine a_sld (i + 2) dL_law_411 (by omega) (by omega) ?_
    rw [ha2]
    refine b_callV (d' := d - 1) (mc' := 0) (ms' := 0) (mc1 := mc) (ms1 := ms) (st := []) (b := 0) [vI a1, vI a2] dL_law_412 mwX8_turns lkL_36 (by decide) rfl rc_X8 rfl (Nat.le_of_ble_eq_true rfl) (by omega) (by omega) (by omega) (c_X8_turns (v1 := (N 5)) (v2 := (h 0 3)) (v3 := (h (8 + 2 * (Int.toNat a1)) 0)) (by omega)  hR.1.2.1 rfl rfl (show 0 ≤ (N 5) ∧ (N 5) ≤ 12 by omega) (show 0 ≤ (h 0 3) ∧ (h 0 3) ≤ 1000 by omega) (fun t5_1_1 t12_2_1 => ?_) (fun t5_1_1 t12_2_1 => ?_) (fun t5_1_1 => ?_))
    · have t5_1_1 : 0 ≤ a1 ∧ a1 < (N 5) := t5_1_1
      have t12_2_1 : 0 ≤ a2 ∧ a2 ≤ 5 := t12_2_1
      show Aj γ mL_law d mc ms Post 415 [(0, vK 0), (1, vA 0), (2, vA 123), (3, vI ((i : Nat) : Int))] [vI (h (8 + 2 * (Int.toNat a1)) 0)] (mk (up2 (up2 (up2 h (8 + 2 * (Int.toNat a1)) 0 a2) 0 3 ((h 0 3) + 1)) 1 0 ((h 0 3) + 1)) τ)
      refine a_aload_n (j := 2) dL_law_415 rfl rfl (Nat.le_of_ble_eq_true rfl) ?_
      refine a_aload_n (j := 0) dL_law_416 rfl rfl (Nat.le_of_ble_eq_true rfl) ?_
      refine a_iload_n (j := 3) dL_law_417 rfl rfl ?_
      refine a_iconst dL_law_418 ⟨by decide, by decide⟩ ?_
      refine a_iadd (z := (((i : Nat) : Int) + 1)) dL_law_419 (w_ok (by omega) (by omega)) ?_
      refine a_sld (i + 1) dL_law_420 (by omega) (by omega) ?_
      rw [ha1]
      refine a_aload_n (j := 0) dL_law_421 rfl rfl (Nat.le_of_ble_eq_true rfl) ?_
      refine a_iload_n (j := 3) dL_law_422 rfl rfl ?_
      refine a_iconst dL_law_423 ⟨by decide, by decide⟩ ?_
      refine a_iadd (z := (((i : Nat) : Int) + 2)) dL_law_424 (w_ok (by omega) (by omega)) ?_
      refine a_sld (i + 2) dL_law_425 (by omega) (by omega) ?_
      rw [ha2]
      refine b_callV (d' := d - 1) (mc' := 0) (ms' := 0) (mc1 := mc) (ms1 := ms) (st := [vI (h (8 + 2 * (Int.toNat a1)) 0)]) (b := 123) [vI a1, vI a2] dL_law_426 mwX9_turns lkL_39 (by decide) rfl rc_X9 rfl (Nat.le_of_ble_eq_true rfl) (by omega) (by omega) (by omega) (c_X9_turns (v1 := (N 5)) (v2 := (N (Int.toNat ((15 + (11 * a1)) + 0)))) (by omega)  ((up2_ne (by omega)).trans ((up2_ne (by omega)).trans ((up2_ne (by omega)).trans (congrFun hN _)))) ((up2_ne (by omega)).trans ((up2_ne (by omega)).trans ((up2_ne (by omega)).trans (congrFun hN _)))) (show 0 ≤ (N 5) ∧ (N 5) ≤ 12 by omega) (fun t2_1_3 t11_2_3 => ?_) (fun t2_1_3 t11_2_3 => ?_) (fun t2_1_3 => ?_))
      · have t2_1_3 : 0 ≤ a1 ∧ a1 < (N 5) := t2_1_3
        have t11_2_3 : 0 ≤ a2 ∧ a2 ≤ 5 := t11_2_3
        show Aj γ mL_law d mc ms Post 429 [(0, vK 0), (1, vA 0), (2, vA 123), (3, vI ((i : Nat) : Int))] [vI (N (Int.toNat ((15 + (11 * a1)) + 0))), vI (h (8 + 2 * (Int.toNat a1)) 0)] (mk (up2 (up2 (up2 (up2 (up2 h (8 + 2 * (Int.toNat a1)) 0 a2) 0 3 ((h 0 3) + 1)) 1 0 ((h 0 3) + 1)) 124 (Int.toNat ((15 + (11 * a1)) + 0)) a2) 123 4 0) τ)
        refine a_icmp_eq (tgt := 1668) dL_law_429 (by decide) (fun c429_5 => ?_) (fun c429_5 => ?_)
        · exfalso
          omega
        · refine a_iconst dL_law_432 ⟨by decide, by decide⟩ ?_
          exact a_zret dL_law_433 rfl (by first | exact Or.inl rfl | exact Or.inr rfl | omega) (by exfalso; omega)
      · exfalso
        omega
      · exfalso
        omega
    · have t5_1_1 : 0 ≤ a1 ∧ a1 < (N 5) := t5_1_1
      have t12_2_1 : ¬ (0 ≤ a2 ∧ a2 ≤ 5) := t12_2_1
      show Aj γ mL_law d mc ms Post 415 [(0, vK 0), (1, vA 0), (2, vA 123), (3, vI ((i : Nat) : Int))] [vI (-1000000001)] (mk h τ)
      refine a_aload_n (j := 2) dL_law_415 rfl rfl (Nat.le_of_ble_eq_true rfl) ?_
      refine a_aload_n (j := 0) dL_law_416 rfl rfl (Nat.le_of_ble_eq_true rfl) ?_
      refine a_iload_n (j := 3) dL_law_417 rfl rfl ?_
      refine a_iconst dL_law_418 ⟨by decide, by decide⟩ ?_
      refine a_iadd (z := (((i : Nat) : Int) + 1)) dL_law_419 (w_ok (by omega) (by omega)) ?_
      refine a_sld (i + 1) dL_law_420 (by omega) (by omega) ?_
      rw [ha1]
      refine a_aload_n (j := 0) dL_law_421 rfl rfl (Nat.le_of_ble_eq_true rfl) ?_
      refine a_iload_n (j := 3) dL_law_422 rfl rfl ?_
      refine a_iconst dL_law_423 ⟨by decide, by decide⟩ ?_
      refine a_iadd (z := (((i : Nat) : Int) + 2)) dL_law_424 (w_ok (by omega) (by omega)) ?_
      refine a_sld (i + 2) dL_law_425 (by omega) (by omega) ?_
      rw [ha2]
      refine b_callV (d' := d - 1) (mc' := 0) (ms' := 0) (mc1 := mc) (ms1 := ms) (st := [vI (-1000000001)]) (b := 123) [vI a1, vI a2] dL_law_426 mwX9_turns lkL_39 (by decide) rfl rc_X9 rfl (Nat.le_of_ble_eq_true rfl) (by omega) (by omega) (by omega) (c_X9_turns (v1 := (N 5)) (v2 := (N (Int.toNat ((15 + (11 * a1)) + 0)))) (by omega)  (congrFun hN _) (congrFun hN _) (show 0 ≤ (N 5) ∧ (N 5) ≤ 12 by omega) (fun t2_1_6 t11_2_6 => ?_) (fun t2_1_6 t11_2_6 => ?_) (fun t2_1_6 => ?_))
      · exfalso
        omega
      · have t2_1_6 : 0 ≤ a1 ∧ a1 < (N 5) := t2_1_6
        have t11_2_6 : ¬ (0 ≤ a2 ∧ a2 ≤ 5) := t11_2_6
        show Aj γ mL_law d mc ms Post 429 [(0, vK 0), (1, vA 0), (2, vA 123), (3, vI ((i : Nat) : Int))] [vI (-1000000001), vI (-1000000001)] (mk h τ)
        refine a_icmp_eq (tgt := 1668) dL_law_429 (by decide) (fun _ => ?_) (fun c => absurd c (by decide))
        exact kE h N J (IV_up (by omega) hI)
      · exfalso
        omega
    · have t5_1_1 : ¬ (0 ≤ a1 ∧ a1 < (N 5)) := t5_1_1
      show Aj γ mL_law d mc ms Post 415 [(0, vK 0), (1, vA 0), (2, vA 123), (3, vI ((i : Nat) : Int))] [vI (-1000000001)] (mk h τ)
      refine a_aload_n (j := 2) dL_law_415 rfl rfl (Nat.le_of_ble_eq_true rfl) ?_
      refine a_aload_n (j := 0) dL_law_416 rfl rfl (Nat.le_of_ble_eq_true rfl) ?_
      refine a_iload_n (j := 3) dL_law_417 rfl rfl ?_
      refine a_iconst dL_law_418 ⟨by decide, by decide⟩ ?_
      refine a_iadd (z := (((i : Nat) : Int) + 1)) dL_law_419 (w_ok (by omega) (by omega)) ?_
      refine a_sld (i + 1) dL_law_420 (by omega) (by omega) ?_
      rw [ha1]
      refine a_aload_n (j := 0) dL_law_421 rfl rfl (Nat.le_of_ble_eq_true rfl) ?_
      refine a_iload_n (j := 3) dL_law_422 rfl rfl ?_
      refine a_iconst dL_law_423 ⟨by decide, by decide⟩ ?_
      refine a_iadd (z := (((i : Nat) : Int) + 2)) dL_law_424 (w_ok (by omega) (by omega)) ?_
      refine a_sld (i + 2) dL_law_425 (by omega) (by omega) ?_
      rw [ha2]
      refine b_callV (d' := d - 1) (mc' := 0) (ms' := 0) (mc1 := mc) (ms1 := ms) (st := [vI (-1000000001)]) (b := 123) [vI a1, vI a2] dL_law_426 mwX9_turns lkL_39 (by decide) rfl rc_X9 rfl (Nat.le_of_ble_eq_true rfl) (by omega) (by omega) (by omega) (c_X9_turns (v1 := (N 5)) (v2 := (N (Int.toNat ((15 + (11 * a1)) + 0)))) (by omega)  (congrFun hN _) (congrFun hN _) (show 0 ≤ (N 5) ∧ (N 5) ≤ 12 by omega) (fun t2_1_8 t11_2_8 => ?_) (fun t2_1_8 t11_2_8 => ?_) (fun t2_1_8 => ?_))
      · exfalso
        omega
      · exfalso
        omega
      · have t2_1_8 : ¬ (0 ≤ a1 ∧ a1 < (N 5)) := t2_1_8
        show Aj γ mL_law d mc ms Post 429 [(0, vK 0), (1, vA 0), (2, vA 123), (3, vI ((i : Nat) : Int))] [vI (-1000000001), vI (-1000000001)] (mk h τ)
        refine a_icmp_eq (tgt := 1668) dL_law_429 (by decide) (fun _ => ?_) (fun c => absurd c (by decide))
        exact kE h N J (IV_up (by omega) hI)
