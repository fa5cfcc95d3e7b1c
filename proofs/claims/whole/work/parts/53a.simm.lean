theorem up2_hit {h : Nat → Nat → Int} {a k j i : Nat} {v : Int} (h1 : j = a) (h2 : i = k) : up2 h a k v j i = v := by subst h1; subst h2; exact up2_at
theorem upR_hit {h : Nat → Nat → Int} {a j i : Nat} {f : Nat → Int} (h1 : j = a) : upR h a f j i = f i := by subst h1; unfold upR; rw [if_pos rfl]
theorem td10 (e : Int) : (0 ≤ e ∧ Int.tdiv e 10 = e / 10 ∧ Int.tmod e 10 = e % 10) ∨ (e < 0 ∧ Int.tdiv e 10 ≤ 0 ∧ Int.tmod e 10 ≤ 0) := by
  rcases Int.lt_or_le e 0 with c | c
  · right
    have h1 : Int.tdiv e 10 = -(Int.tdiv (-e) 10) := by rw [Int.neg_tdiv, Int.neg_neg]
    have h2 : Int.tmod e 10 = -(Int.tmod (-e) 10) := by rw [Int.neg_tmod, Int.neg_neg]
    have h3 := Int.tdiv_nonneg (by omega : (0 : Int) ≤ -e) (by decide : (0 : Int) ≤ 10)
    have h4 := Int.tmod_nonneg 10 (by omega : (0 : Int) ≤ -e)
    omega
  · left
    exact ⟨c, Int.tdiv_eq_ediv_of_nonneg c, Int.tmod_eq_emod_of_nonneg c⟩
set_option maxHeartbeats 16000000 in
theorem s_stop {γ : GT} {d mc ms n i : Nat} {N J : Nat → Int} {h : Nat → Nat → Int} {τ : List AC} {Post : Option AV → List AC → Prop} (hd : 30 ≤ d) (hn : n < 64) (hi : i + 5 < g_L γ) (hL : g_L γ ≤ 384) (hI : IVp n h τ N J) (kE : ∀ h' N' J', IVp (n + 1) h' τ N' J' → Aj γ mL_law d mc ms Post 1668 [(0, vK 0), (1, vA 0), (2, vA 123), (3, vI ((i : Nat) : Int))] [] (mk h' τ)) : Aj γ mL_law d mc ms Post 236 [(0, vK 0), (1, vA 0), (2, vA 123), (3, vI ((i : Nat) : Int))] [] (mk h τ) := by
  obtain ⟨hN, hJ, hX, hR, hk, hkK, hC, hRC, hst, hO⟩ := id hI
  have hsc := hX.1.1
  have hs1 := hsc.1
  have hs2 := hsc.2.1
  have hs3 := hsc.2.2.1
  have hs4 := hsc.2.2.2.1
  have hs5 := hsc.2.2.2.2
  have hs6 := hX.1.2.2.2.1
  have hx7 := hX.2.1
  have hx8 := hX.2.2.2.1
  obtain ⟨a1, ha1⟩ : ∃ z, (g_x γ (i + 1)).toInt = z := ⟨_, rfl⟩
  have ra1 : inI a1 := ha1 ▸ i32_rng _
  unfold inI at ra1
  obtain ⟨s0, hs0⟩ : ∃ z : Nat, N 4 = (z : Int) := ⟨Int.toNat (N 4), by omega⟩
  refine a_aload_n (j := 1) dL_law_236 rfl rfl (Nat.le_of_ble_eq_true rfl) ?_
  refine a_aload_n (j := 0) dL_law_237 rfl rfl (Nat.le_of_ble_eq_true rfl) ?_
  refine a_iload_n (j := 3) dL_law_238 rfl rfl ?_
  refine a_iconst dL_law_239 ⟨by decide, by decide⟩ ?_
  refine a_iadd (z := (((i : Nat) : Int) + 1)) dL_law_240 (w_ok (by omega) (by omega)) ?_
  refine a_sld (i + 1) dL_law_241 (by omega) (by omega) ?_
  rw [ha1]
  refine b_callV (d' := d - 1) (mc' := 0) (ms' := 0) (mc1 := mc) (ms1 := ms) (st := []) (b := 0) [vI a1] dL_law_242 mwX8_stop lkL_13 (by decide) rfl rc_X8 rfl (Nat.le_of_ble_eq_true rfl) (by omega) (by omega) (by omega) (c_X8_stop (v1 := ((s0 : Nat) : Int)) (v2 := (h 0 3)) (by omega)  (hR.1.1.trans hs0) rfl (show 0 ≤ ((s0 : Nat) : Int) ∧ ((s0 : Nat) : Int) ≤ 6 by omega) (show 0 ≤ (h 0 3) ∧ (h 0 3) ≤ 1000 by omega) (fun t4_1_1 c22_2_1 => ?_) (fun t4_1_1 c22_2_1 => ?_) (fun t4_1_1 => ?_))
  · have t4_1_1 : 0 ≤ a1 ∧ a1 ≤ 99 := t4_1_1
    have c22_2_1 : ((s0 : Nat) : Int) < 6 := c22_2_1
    show Aj γ mL_law d mc ms Post 245 [(0, vK 0), (1, vA 0), (2, vA 123), (3, vI ((i : Nat) : Int))] [vI ((((s0 : Nat) : Int) + 1) - 1)] (mk (up2 (up2 (up2 (up2 h 2 s0 a1) 1 1 (((s0 : Nat) : Int) + 1)) 0 3 ((h 0 3) + 1)) 1 0 ((h 0 3) + 1)) τ)
    refine a_aload_n (j := 2) dL_law_245 rfl rfl (Nat.le_of_ble_eq_true rfl) ?_
    refine a_aload_n (j := 0) dL_law_246 rfl rfl (Nat.le_of_ble_eq_true rfl) ?_
    refine a_iload_n (j := 3) dL_law_247 rfl rfl ?_
    refine a_iconst dL_law_248 ⟨by decide, by decide⟩ ?_
    refine a_iadd (z := (((i : Nat) : Int) + 1)) dL_law_249 (w_ok (by omega) (by omega)) ?_
    refine a_sld (i + 1) dL_law_250 (by omega) (by omega) ?_
    rw [ha1]
    refine b_callV (d' := d - 1) (mc' := 0) (ms' := 0) (mc1 := mc) (ms1 := ms) (st := [vI ((((s0 : Nat) : Int) + 1) - 1)]) (b := 123) [vI a1] dL_law_251 mwX9_stop lkL_17 (by decide) rfl rc_X9 rfl (Nat.le_of_ble_eq_true rfl) (by omega) (by omega) (by omega) (c_X9_stop (v1 := ((s0 : Nat) : Int)) (by omega)  ((up2_ne (by omega)).trans ((up2_ne (by omega)).trans ((up2_ne (by omega)).trans ((up2_ne (by omega)).trans ((congrFun hN 4).trans hs0))))) (show 0 ≤ ((s0 : Nat) : Int) ∧ ((s0 : Nat) : Int) ≤ 6 by omega) (fun t4_1_3 c21_3_3 => ?_) (fun t4_1_3 c21_3_3 => ?_) (fun t4_1_3 => ?_))
    · have t4_1_3 : 0 ≤ a1 ∧ a1 ≤ 99 := t4_1_3
      have c21_3_3 : ¬ ((s0 : Nat) : Int) = 6 := c21_3_3
      show Aj γ mL_law d mc ms Post 254 [(0, vK 0), (1, vA 0), (2, vA 123), (3, vI ((i : Nat) : Int))] [vI ((((s0 : Nat) : Int) + 1) - 1), vI ((((s0 : Nat) : Int) + 1) - 1)] (mk (up2 (up2 (up2 (up2 (up2 (up2 (up2 h 2 s0 a1) 1 1 (((s0 : Nat) : Int) + 1)) 0 3 ((h 0 3) + 1)) 1 0 ((h 0 3) + 1)) 124 (Int.toNat (9 + ((s0 : Nat) : Int))) a1) 124 4 (((s0 : Nat) : Int) + 1)) 123 4 0) τ)
      refine a_icmp_eq (tgt := 1668) dL_law_254 (by decide) (fun c254_5 => ?_) (fun c254_5 => ?_)
      · generalize hHH : (up2 (up2 (up2 (up2 (up2 (up2 (up2 h 2 s0 a1) 1 1 (((s0 : Nat) : Int) + 1)) 0 3 ((h 0 3) + 1)) 1 0 ((h 0 3) + 1)) 124 (Int.toNat (9 + ((s0 : Nat) : Int))) a1) 124 4 (((s0 : Nat) : Int) + 1)) 123 4 0) = H
        have a1_ : ∀ k : Nat, k ≠ 0 → k ≠ 1 → H 1 k = h 1 k := fun k q0_ q1_ => by rw [← hHH]; exact ((up2_ne (by omega)).trans ((up2_ne (by omega)).trans ((up2_ne (by omega)).trans ((up2_ne (by omega)).trans ((up2_ne (by omega)).trans ((up2_ne (by omega)).trans ((up2_ne (by omega)).trans rfl)))))))
        have a2_ : H 1 1 = (((s0 : Nat) : Int) + 1) := by rw [← hHH]; exact ((up2_ne (by omega)).trans ((up2_ne (by omega)).trans ((up2_ne (by omega)).trans ((up2_ne (by omega)).trans ((up2_ne (by omega)).trans (up2_hit (by omega) (by omega)))))))
        have a3_ : H 2 s0 = a1 := by rw [← hHH]; exact ((up2_ne (by omega)).trans ((up2_ne (by omega)).trans ((up2_ne (by omega)).trans ((up2_ne (by omega)).trans ((up2_ne (by omega)).trans ((up2_ne (by omega)).trans (up2_hit (by omega) (by omega))))))))
        have a4_ : ∀ k : Nat, k ≠ s0 → H 2 k = h 2 k := fun k q0_ => by rw [← hHH]; exact ((up2_ne (by omega)).trans ((up2_ne (by omega)).trans ((up2_ne (by omega)).trans ((up2_ne (by omega)).trans ((up2_ne (by omega)).trans ((up2_ne (by omega)).trans ((up2_ne (by omega)).trans rfl)))))))
        have a5_ : ∀ c, 3 ≤ c → c < 32 → H c = h c := fun c q0_ q1_ => by rw [← hHH]; exact ((up2_row (by omega)).trans ((up2_row (by omega)).trans ((up2_row (by omega)).trans ((up2_row (by omega)).trans ((up2_row (by omega)).trans ((up2_row (by omega)).trans ((up2_row (by omega)).trans rfl)))))))
        have n1_ : H 124 4 = (((s0 : Nat) : Int) + 1) := by rw [← hHH]; exact ((up2_ne (by omega)).trans (up2_hit (by omega) (by omega)))
        have n2_ : H 124 (9 + s0) = a1 := by rw [← hHH]; exact ((up2_ne (by omega)).trans ((up2_ne (by omega)).trans (up2_hit (by omega) (by omega))))
        have n3_ : ∀ k : Nat, k ≠ 4 → k ≠ 9 + s0 → H 124 k = N k := fun k q0_ q1_ => by rw [← hHH]; exact ((up2_ne (by omega)).trans ((up2_ne (by omega)).trans ((up2_ne (by omega)).trans ((up2_ne (by omega)).trans ((up2_ne (by omega)).trans ((up2_ne (by omega)).trans ((up2_ne (by omega)).trans (congrFun hN _))))))))
        have hW := W_stop (h := h) (h' := H) hX hR hs0 (by omega) (by omega) a1_ a2_ a3_ a4_ a5_ n1_ n2_ n3_
        have gF : ∀ c, ¬ inW c → H c = h c := fun c q0_ => by unfold inW at q0_; rw [← hHH]; exact ((up2_row (by omega)).trans ((up2_row (by omega)).trans ((up2_row (by omega)).trans ((up2_row (by omega)).trans ((up2_row (by omega)).trans ((up2_row (by omega)).trans ((up2_row (by omega)).trans rfl)))))))
        have g0 : ∀ k : Nat, k ≠ 3 → H 0 k = h 0 k := fun k q0_ => by rw [← hHH]; exact ((up2_ne (by omega)).trans ((up2_ne (by omega)).trans ((up2_ne (by omega)).trans ((up2_ne (by omega)).trans ((up2_ne (by omega)).trans ((up2_ne (by omega)).trans ((up2_ne (by omega)).trans rfl)))))))
        have e03 : H 0 3 = ((h 0 3) + 1) := by rw [← hHH]; exact ((up2_ne (by omega)).trans ((up2_ne (by omega)).trans ((up2_ne (by omega)).trans ((up2_ne (by omega)).trans (up2_hit (by omega) (by omega))))))
        have e10 : H 1 0 = ((h 0 3) + 1) := by rw [← hHH]; exact ((up2_ne (by omega)).trans ((up2_ne (by omega)).trans ((up2_ne (by omega)).trans (up2_hit (by omega) (by omega)))))
        have g3 : ∀ k : Nat, k ≠ 4 → H 123 k = h 123 k := fun k q0_ => by rw [← hHH]; exact ((up2_ne (by omega)).trans ((up2_ne (by omega)).trans ((up2_ne (by omega)).trans ((up2_ne (by omega)).trans ((up2_ne (by omega)).trans ((up2_ne (by omega)).trans ((up2_ne (by omega)).trans rfl)))))))
        have e4 : H 123 4 = 0 := by rw [← hHH]; exact (up2_hit (by omega) (by omega))
        exact kE H (H 124) J (IV_s hI gF g0 e03 e10 g3 e4 rfl hW.1 hW.2)
      · refine a_iconst dL_law_257 ⟨by decide, by decide⟩ ?_
        exact a_zret dL_law_258 rfl (by first | exact Or.inl rfl | exact Or.inr rfl | omega) (by exfalso; omega)
    · have t4_1_3 : 0 ≤ a1 ∧ a1 ≤ 99 := t4_1_3
      have c21_3_3 : ((s0 : Nat) : Int) = 6 := c21_3_3
      show Aj γ mL_law d mc ms Post 254 [(0, vK 0), (1, vA 0), (2, vA 123), (3, vI ((i : Nat) : Int))] [vI (-1000000003), vI ((((s0 : Nat) : Int) + 1) - 1)] (mk (up2 (up2 (up2 (up2 h 2 s0 a1) 1 1 (((s0 : Nat) : Int) + 1)) 0 3 ((h 0 3) + 1)) 1 0 ((h 0 3) + 1)) τ)
      refine a_icmp_eq (tgt := 1668) dL_law_254 (by decide) (fun c254_6 => ?_) (fun c254_6 => ?_)
      · exfalso
        omega
      · refine a_iconst dL_law_257 ⟨by decide, by decide⟩ ?_
        exact a_zret dL_law_258 rfl (by first | exact Or.inl rfl | exact Or.inr rfl | omega) (by exfalso; omega)
    · exfalso
      omega
  · have t4_1_1 : 0 ≤ a1 ∧ a1 ≤ 99 := t4_1_1
    have c22_2_1 : ¬ ((s0 : Nat) : Int) < 6 := c22_2_1
    show Aj γ mL_law d mc ms Post 245 [(0, vK 0), (1, vA 0), (2, vA 123), (3, vI ((i : Nat) : Int))] [vI (-1000000003)] (mk h τ)
    refine a_aload_n (j := 2) dL_law_245 rfl rfl (Nat.le_of_ble_eq_true rfl) ?_
    refine a_aload_n (j := 0) dL_law_246 rfl rfl (Nat.le_of_ble_eq_true rfl) ?_
    refine a_iload_n (j := 3) dL_law_247 rfl rfl ?_
    refine a_iconst dL_law_248 ⟨by decide, by decide⟩ ?_
    refine a_iadd (z := (((i : Nat) : Int) + 1)) dL_law_249 (w_ok (by omega) (by omega)) ?_
    refine a_sld (i + 1) dL_law_250 (by omega) (by omega) ?_
    rw [ha1]
    refine b_callV (d' := d - 1) (mc' := 0) (ms' := 0) (mc1 := mc) (ms1 := ms) (st := [vI (-1000000003)]) (b := 123) [vI a1] dL_law_251 mwX9_stop lkL_17 (by decide) rfl rc_X9 rfl (Nat.le_of_ble_eq_true rfl) (by omega) (by omega) (by omega) (c_X9_stop (v1 := ((s0 : Nat) : Int)) (by omega)  ((congrFun hN 4).trans hs0) (show 0 ≤ ((s0 : Nat) : Int) ∧ ((s0 : Nat) : Int) ≤ 6 by omega) (fun t4_1_7 c21_3_7 => ?_) (fun t4_1_7 c21_3_7 => ?_) (fun t4_1_7 => ?_))
    · have t4_1_7 : 0 ≤ a1 ∧ a1 ≤ 99 := t4_1_7
      have c21_3_7 : ¬ ((s0 : Nat) : Int) = 6 := c21_3_7
      show Aj γ mL_law d mc ms Post 254 [(0, vK 0), (1, vA 0), (2, vA 123), (3, vI ((i : Nat) : Int))] [vI ((((s0 : Nat) : Int) + 1) - 1), vI (-1000000003)] (mk (up2 (up2 (up2 h 124 (Int.toNat (9 + ((s0 : Nat) : Int))) a1) 124 4 (((s0 : Nat) : Int) + 1)) 123 4 0) τ)
      refine a_icmp_eq (tgt := 1668) dL_law_254 (by decide) (fun c254_9 => ?_) (fun c254_9 => ?_)
      · exfalso
        omega
      · refine a_iconst dL_law_257 ⟨by decide, by decide⟩ ?_
        exact a_zret dL_law_258 rfl (by first | exact Or.inl rfl | exact Or.inr rfl | omega) (by exfalso; omega)
    · have t4_1_7 : 0 ≤ a1 ∧ a1 ≤ 99 := t4_1_7
      have c21_3_7 : ((s0 : Nat) : Int) = 6 := c21_3_7
      show Aj γ mL_law d mc ms Post 254 [(0, vK 0), (1, vA 0), (2, vA 123), (3, vI ((i : Nat) : Int))] [vI (-1000000003), vI (-1000000003)] (mk h τ)
      refine a_icmp_eq (tgt := 1668) dL_law_254 (by decide) (fun _ => ?_) (fun c => absurd c (by decide))
      exact kE h N J (IV_up (by omega) hI)
    · exfalso
      omega
  · have t4_1_1 : ¬ (0 ≤ a1 ∧ a1 ≤ 99) := t4_1_1
    show Aj γ mL_law d mc ms Post 245 [(0, vK 0), (1, vA 0), (2, vA 123), (3, vI ((i : Nat) : Int))] [vI (-1000000001)] (mk h τ)
    refine a_aload_n (j := 2) dL_law_245 rfl rfl (Nat.le_of_ble_eq_true rfl) ?_
    refine a_aload_n (j := 0) dL_law_246 rfl rfl (Nat.le_of_ble_eq_true rfl) ?_
    refine a_iload_n (j := 3) dL_law_247 rfl rfl ?_
    refine a_iconst dL_law_248 ⟨by decide, by decide⟩ ?_
    refine a_iadd (z := (((i : Nat) : Int) + 1)) dL_law_249 (w_ok (by omega) (by omega)) ?_
    refine a_sld (i + 1) dL_law_250 (by omega) (by omega) ?_
    rw [ha1]
    refine b_callV (d' := d - 1) (mc' := 0) (ms' := 0) (mc1 := mc) (ms1 := ms) (st := [vI (-1000000001)]) (b := 123) [vI a1] dL_law_251 mwX9_stop lkL_17 (by decide) rfl rc_X9 rfl (Nat.le_of_ble_eq_true rfl) (by omega) (by omega) (by omega) (c_X9_stop (v1 := ((s0 : Nat) : Int)) (by omega)  ((congrFun hN 4).trans hs0) (show 0 ≤ ((s0 : Nat) : Int) ∧ ((s0 : Nat) : Int) ≤ 6 by omega) (fun t4_1_10 c21_3_10 => ?_) (fun t4_1_10 c21_3_10 => ?_) (fun t4_1_10 => ?_))
    · exfalso
      omega
    · exfalso
      omega
    · have t4_1_10 : ¬ (0 ≤ a1 ∧ a1 ≤ 99) := t4_1_10
      show Aj γ mL_law d mc ms Post 254 [(0, vK 0), (1, vA 0), (2, vA 123), (3, vI ((i : Nat) : Int))] [vI (-1000000001), vI (-1000000001)] (mk h τ)
      refine a_icmp_eq (tgt := 1668) dL_law_254 (by decide) (fun _ => ?_) (fun c => absurd c (by decide))
      exact kE h N J (IV_up (by omega) hI)
set_option maxHeartbeats 16000000 in
theorem s_day {γ : GT} {d mc ms n i : Nat} {N J : Nat → Int} {h : Nat → Nat → Int} {τ : List AC} {Post : Option AV → List AC → Prop} (hd : 30 ≤ d) (hn : n < 64) (hi : i + 5 < g_L γ) (hL : g_L γ ≤ 384) (hI : IVp n h τ N J) (kE : ∀ h' N' J', IVp (n + 1) h' τ N' J' → Aj γ mL_law d mc ms Post 1668 [(0, vK 0), (1, vA 0), (2, vA 123), (3, vI ((i : Nat) : Int))] [] (mk h' τ)) : Aj γ mL_law d mc ms Post 563 [(0, vK 0), (1, vA 0), (2, vA 123), (3, vI ((i : Nat) : Int))] [] (mk h τ) := by
  obtain ⟨hN, hJ, hX, hR, hk, hkK, hC, hRC, hst, hO⟩ := id hI
  have hsc := hX.1.1
  have hs1 := hsc.1
  have hs2 := hsc.2.1
  have hs3 := hsc.2.2.1
  have hs4 := hsc.2.2.2.1
  have hs5 := hsc.2.2.2.2
  have hs6 := hX.1.2.2.2.1
  have hx7 := hX.2.1
  have hx8 := hX.2.2.2.1
  obtain ⟨a1, ha1⟩ : ∃ z, (g_x γ (i + 1)).toInt = z := ⟨_, rfl⟩
  have ra1 : inI a1 := ha1 ▸ i32_rng _
  unfold inI at ra1
  refine a_aload_n (j := 1) dL_law_563 rfl rfl (Nat.le_of_ble_eq_true rfl) ?_
  refine a_aload_n (j := 0) dL_law_564 rfl rfl (Nat.le_of_ble_eq_true rfl) ?_
  refine a_iload_n (j := 3) dL_law_565 rfl rfl ?_
  refine a_iconst dL_law_566 ⟨by decide, by decide⟩ ?_
  refine a_iadd (z := (((i : Nat) : Int) + 1)) dL_law_567 (w_ok (by omega) (by omega)) ?_
  refine a_sld (i + 1) dL_law_568 (by omega) (by omega) ?_
  rw [ha1]
  refine b_callV (d' := d - 1) (mc' := 0) (ms' := 0) (mc1 := mc) (ms1 := ms) (st := []) (b := 0) [vI a1] dL_law_569 mwX8_day lkL_53 (by decide) rfl rc_X8 rfl (Nat.le_of_ble_eq_true rfl) (by omega) (by omega) (by omega) (c_X8_day (v1 := (h 0 3)) (v2 := (N 1)) (by omega)  rfl hR.1.2.2.2.2.2.2.1 (show 0 ≤ (h 0 3) ∧ (h 0 3) ≤ 1000 by omega) (fun t5_1_1 => ?_) (fun t5_1_1 => ?_))
  · have t5_1_1 : 0 ≤ a1 ∧ a1 ≤ 999 := t5_1_1
    show Aj γ mL_law d mc ms Post 572 [(0, vK 0), (1, vA 0), (2, vA 123), (3, vI ((i : Nat) : Int))] [vI (N 1)] (mk (up2 (up2 (up2 h 1 11 a1) 0 3 ((h 0 3) + 1)) 1 0 ((h 0 3) + 1)) τ)
    refine a_aload_n (j := 2) dL_law_572 rfl rfl (Nat.le_of_ble_eq_true rfl) ?_
    refine a_aload_n (j := 0) dL_law_573 rfl rfl (Nat.le_of_ble_eq_true rfl) ?_
    refine a_iload_n (j := 3) dL_law_574 rfl rfl ?_
    refine a_iconst dL_law_575 ⟨by decide, by decide⟩ ?_
    refine a_iadd (z := (((i : Nat) : Int) + 1)) dL_law_576 (w_ok (by omega) (by omega)) ?_
    refine a_sld (i + 1) dL_law_577 (by omega) (by omega) ?_
    rw [ha1]
    refine b_callV (d' := d - 1) (mc' := 0) (ms' := 0) (mc1 := mc) (ms1 := ms) (st := [vI (N 1)]) (b := 123) [vI a1] dL_law_578 mwX9_day lkL_56 (by decide) rfl rc_X9 rfl (Nat.le_of_ble_eq_true rfl) (by omega) (by omega) (by omega) (c_X9_day (v1 := (N 1)) (by omega)  ((up2_ne (by omega)).trans ((up2_ne (by omega)).trans ((up2_ne (by omega)).trans (congrFun hN _))))  (fun t5_1_3 => ?_) (fun t5_1_3 => ?_))
    · have t5_1_3 : 0 ≤ a1 ∧ a1 ≤ 999 := t5_1_3
      show Aj γ mL_law d mc ms Post 581 [(0, vK 0), (1, vA 0), (2, vA 123), (3, vI ((i : Nat) : Int))] [vI (N 1), vI (N 1)] (mk (up2 (up2 (up2 (up2 (up2 h 1 11 a1) 0 3 ((h 0 3) + 1)) 1 0 ((h 0 3) + 1)) 124 1 a1) 123 4 0) τ)
      refine a_icmp_eq (tgt := 1668) dL_law_581 (by decide) (fun c581_5 => ?_) (fun c581_5 => ?_)
      · generalize hHH : (up2 (up2 (up2 (up2 (up2 h 1 11 a1) 0 3 ((h 0 3) + 1)) 1 0 ((h 0 3) + 1)) 124 1 a1) 123 4 0) = H
        have c1_ : H 1 1 = h 1 1 := by rw [← hHH]; exact ((up2_ne (by omega)).trans ((up2_ne (by omega)).trans ((up2_ne (by omega)).trans ((up2_ne (by omega)).trans ((up2_ne (by omega)).trans rfl)))))
        have d4_ : H 124 4 = N 4 := by rw [← hHH]; exact ((up2_ne (by omega)).trans ((up2_ne (by omega)).trans ((up2_ne (by omega)).trans ((up2_ne (by omega)).trans ((up2_ne (by omega)).trans (congrFun hN _))))))
        have c3_ : H 1 3 = h 1 3 := by rw [← hHH]; exact ((up2_ne (by omega)).trans ((up2_ne (by omega)).trans ((up2_ne (by omega)).trans ((up2_ne (by omega)).trans ((up2_ne (by omega)).trans rfl)))))
        have d5_ : H 124 5 = N 5 := by rw [← hHH]; exact ((up2_ne (by omega)).trans ((up2_ne (by omega)).trans ((up2_ne (by omega)).trans ((up2_ne (by omega)).trans ((up2_ne (by omega)).trans (congrFun hN _))))))
        have c5_ : H 1 5 = h 1 5 := by rw [← hHH]; exact ((up2_ne (by omega)).trans ((up2_ne (by omega)).trans ((up2_ne (by omega)).trans ((up2_ne (by omega)).trans ((up2_ne (by omega)).trans rfl)))))
        have d6_ : H 124 6 = N 6 := by rw [← hHH]; exact ((up2_ne (by omega)).trans ((up2_ne (by omega)).trans ((up2_ne (by omega)).trans ((up2_ne (by omega)).trans ((up2_ne (by omega)).trans (congrFun hN _))))))
        have c7_ : H 1 7 = h 1 7 := by rw [← hHH]; exact ((up2_ne (by omega)).trans ((up2_ne (by omega)).trans ((up2_ne (by omega)).trans ((up2_ne (by omega)).trans ((up2_ne (by omega)).trans rfl)))))
        have d7_ : H 124 7 = N 7 := by rw [← hHH]; exact ((up2_ne (by omega)).trans ((up2_ne (by omega)).trans ((up2_ne (by omega)).trans ((up2_ne (by omega)).trans ((up2_ne (by omega)).trans (congrFun hN _))))))
        have c9_ : H 1 9 = h 1 9 := by rw [← hHH]; exact ((up2_ne (by omega)).trans ((up2_ne (by omega)).trans ((up2_ne (by omega)).trans ((up2_ne (by omega)).trans ((up2_ne (by omega)).trans rfl)))))
        have d2_ : H 124 2 = N 2 := by rw [← hHH]; exact ((up2_ne (by omega)).trans ((up2_ne (by omega)).trans ((up2_ne (by omega)).trans ((up2_ne (by omega)).trans ((up2_ne (by omega)).trans (congrFun hN _))))))
        have c10_ : H 1 10 = h 1 10 := by rw [← hHH]; exact ((up2_ne (by omega)).trans ((up2_ne (by omega)).trans ((up2_ne (by omega)).trans ((up2_ne (by omega)).trans ((up2_ne (by omega)).trans rfl)))))
        have d3_ : H 124 3 = N 3 := by rw [← hHH]; exact ((up2_ne (by omega)).trans ((up2_ne (by omega)).trans ((up2_ne (by omega)).trans ((up2_ne (by omega)).trans ((up2_ne (by omega)).trans (congrFun hN _))))))
        have c11_ : H 1 11 = a1 := by rw [← hHH]; exact ((up2_ne (by omega)).trans ((up2_ne (by omega)).trans ((up2_ne (by omega)).trans ((up2_ne (by omega)).trans (up2_hit (by omega) (by omega))))))
        have d1_ : H 124 1 = a1 := by rw [← hHH]; exact ((up2_ne (by omega)).trans (up2_hit (by omega) (by omega)))
        have c12_ : H 1 12 = h 1 12 := by rw [← hHH]; exact ((up2_ne (by omega)).trans ((up2_ne (by omega)).trans ((up2_ne (by omega)).trans ((up2_ne (by omega)).trans ((up2_ne (by omega)).trans rfl)))))
        have d8_ : H 124 8 = N 8 := by rw [← hHH]; exact ((up2_ne (by omega)).trans ((up2_ne (by omega)).trans ((up2_ne (by omega)).trans ((up2_ne (by omega)).trans ((up2_ne (by omega)).trans (congrFun hN _))))))
        have c15_ : H 1 15 = h 1 15 := by rw [← hHH]; exact ((up2_ne (by omega)).trans ((up2_ne (by omega)).trans ((up2_ne (by omega)).trans ((up2_ne (by omega)).trans ((up2_ne (by omega)).trans rfl)))))
        have d0_ : H 124 0 = N 0 := by rw [← hHH]; exact ((up2_ne (by omega)).trans ((up2_ne (by omega)).trans ((up2_ne (by omega)).trans ((up2_ne (by omega)).trans ((up2_ne (by omega)).trans (congrFun hN _))))))
        have a5_ : ∀ c, 2 ≤ c → c < 32 → H c = h c := fun c q0_ q1_ => by rw [← hHH]; exact ((up2_row (by omega)).trans ((up2_row (by omega)).trans ((up2_row (by omega)).trans ((up2_row (by omega)).trans ((up2_row (by omega)).trans rfl)))))
        have nk_ : ∀ k : Nat, 9 ≤ k → H 124 k = N k := fun k q0_ => by rw [← hHH]; exact ((up2_ne (by omega)).trans ((up2_ne (by omega)).trans ((up2_ne (by omega)).trans ((up2_ne (by omega)).trans ((up2_ne (by omega)).trans (congrFun hN _))))))
        have hW := W_sc (h := h) (h' := H) hX hR a5_ ⟨c1_.trans ((hR.1.1).trans d4_.symm), c3_.trans ((hR.1.2.1).trans d5_.symm), c5_.trans ((hR.1.2.2.1).trans d6_.symm), c7_.trans ((hR.1.2.2.2.1).trans d7_.symm), c9_.trans ((hR.1.2.2.2.2.1).trans d2_.symm), c10_.trans ((hR.1.2.2.2.2.2.1).trans d3_.symm), c11_.trans d1_.symm, c12_.trans ((hR.1.2.2.2.2.2.2.2.1).trans d8_.symm), c15_.trans ((hR.1.2.2.2.2.2.2.2.2).trans d0_.symm)⟩ d4_ d5_ d6_ (by omega) (by omega) nk_ ⟨by omega, by omega, by omega, by omega, by omega⟩
        have gF : ∀ c, ¬ inW c → H c = h c := fun c q0_ => by unfold inW at q0_; rw [← hHH]; exact ((up2_row (by omega)).trans ((up2_row (by omega)).trans ((up2_row (by omega)).trans ((up2_row (by omega)).trans ((up2_row (by omega)).trans rfl)))))
        have g0 : ∀ k : Nat, k ≠ 3 → H 0 k = h 0 k := fun k q0_ => by rw [← hHH]; exact ((up2_ne (by omega)).trans ((up2_ne (by omega)).trans ((up2_ne (by omega)).trans ((up2_ne (by omega)).trans ((up2_ne (by omega)).trans rfl)))))
        have e03 : H 0 3 = ((h 0 3) + 1) := by rw [← hHH]; exact ((up2_ne (by omega)).trans ((up2_ne (by omega)).trans ((up2_ne (by omega)).trans (up2_hit (by omega) (by omega)))))
        have e10 : H 1 0 = ((h 0 3) + 1) := by rw [← hHH]; exact ((up2_ne (by omega)).trans ((up2_ne (by omega)).trans (up2_hit (by omega) (by omega))))
        have g3 : ∀ k : Nat, k ≠ 4 → H 123 k = h 123 k := fun k q0_ => by rw [← hHH]; exact ((up2_ne (by omega)).trans ((up2_ne (by omega)).trans ((up2_ne (by omega)).trans ((up2_ne (by omega)).trans ((up2_ne (by omega)).trans rfl)))))
        have e4 : H 123 4 = 0 := by rw [← hHH]; exact (up2_hit (by omega) (by omega))
        exact kE H (H 124) J (IV_s hI gF g0 e03 e10 g3 e4 rfl hW.1 hW.2)
      · refine a_iconst dL_law_584 ⟨by decide, by decide⟩ ?_
        exact a_zret dL_law_585 rfl (by first | exact Or.inl rfl | exact Or.inr rfl | omega) (by exfalso; omega)
    · exfalso
      omega
  · have t5_1_1 : ¬ (0 ≤ a1 ∧ a1 ≤ 999) := t5_1_1
    show Aj γ mL_law d mc ms Post 572 [(0, vK 0), (1, vA 0), (2, vA 123), (3, vI ((i : Nat) : Int))] [vI (-1000000001)] (mk h τ)
    refine a_aload_n (j := 2) dL_law_572 rfl rfl (Nat.le_of_ble_eq_true rfl) ?_
    refine a_aload_n (j := 0) dL_law_573 rfl rfl (Nat.le_of_ble_eq_true rfl) ?_
    refine a_iload_n (j := 3) dL_law_574 rfl rfl ?_
    refine a_iconst dL_law_575 ⟨by decide, by decide⟩ ?_
    refine a_iadd (z := (((i : Nat) : Int) + 1)) dL_law_576 (w_ok (by omega) (by omega)) ?_
    refine a_sld (i + 1) dL_law_577 (by omega) (by omega) ?_
    rw [ha1]
    refine b_callV (d' := d - 1) (mc' := 0) (ms' := 0) (mc1 := mc) (ms1 := ms) (st := [vI (-1000000001)]) (b := 123) [vI a1] dL_law_578 mwX9_day lkL_56 (by decide) rfl rc_X9 rfl (Nat.le_of_ble_eq_true rfl) (by omega) (by omega) (by omega) (c_X9_day (v1 := (N 1)) (by omega)  (congrFun hN _)  (fun t5_1_6 => ?_) (fun t5_1_6 => ?_))
    · exfalso
      omega
    · have t5_1_6 : ¬ (0 ≤ a1 ∧ a1 ≤ 999) := t5_1_6
      show Aj γ mL_law d mc ms Post 581 [(0, vK 0), (1, vA 0), (2, vA 123), (3, vI ((i : Nat) : Int))] [vI (-1000000001), vI (-1000000001)] (mk h τ)
      refine a_icmp_eq (tgt := 1668) dL_law_581 (by decide) (fun _ => ?_) (fun c => absurd c (by decide))
      exact kE h N J (IV_up (by omega) hI)
set_option maxHeartbeats 16000000 in
theorem s_aim {γ : GT} {d mc ms n i : Nat} {N J : Nat → Int} {h : Nat → Nat → Int} {τ : List AC} {Post : Option AV → List AC → Prop} (hd : 30 ≤ d) (hn : n < 64) (hi : i + 5 < g_L γ) (hL : g_L γ ≤ 384) (hI : IVp n h τ N J) (kE : ∀ h' N' J', IVp (n + 1) h' τ N' J' → Aj γ mL_law d mc ms Post 1668 [(0, vK 0), (1, vA 0), (2, vA 123), (3, vI ((i : Nat) : Int))] [] (mk h' τ)) : Aj γ mL_law d mc ms Post 758 [(0, vK 0), (1, vA 0), (2, vA 123), (3, vI ((i : Nat) : Int))] [] (mk h τ) := by
  obtain ⟨hN, hJ, hX, hR, hk, hkK, hC, hRC, hst, hO⟩ := id hI
  have hsc := hX.1.1
  have hs1 := hsc.1
  have hs2 := hsc.2.1
  have hs3 := hsc.2.2.1
  have hs4 := hsc.2.2.2.1
  have hs5 := hsc.2.2.2.2
  have hs6 := hX.1.2.2.2.1
  have hx7 := hX.2.1
  have hx8 := hX.2.2.2.1
  obtain ⟨a1, ha1⟩ : ∃ z, (g_x γ (i + 1)).toInt = z := ⟨_, rfl⟩
  have ra1 : inI a1 := ha1 ▸ i32_rng _
  unfold inI at ra1
  obtain ⟨a2, ha2⟩ : ∃ z, (g_x γ (i + 2)).toInt = z := ⟨_, rfl⟩
  have ra2 : inI a2 := ha2 ▸ i32_rng _
  unfold inI at ra2
  rcases (show a1 = 0 ∨ a1 = 1 ∨ ¬ (0 ≤ a1 ∧ a1 ≤ 1) by omega) with rfl | rfl | hin
  · skip
    refine a_aload_n (j := 1) dL_law_758 rfl rfl (Nat.le_of_ble_eq_true rfl) ?_
    refine a_aload_n (j := 0) dL_law_759 rfl rfl (Nat.le_of_ble_eq_true rfl) ?_
    refine a_iload_n (j := 3) dL_law_760 rfl rfl ?_
    refine a_iconst dL_law_761 ⟨by decide, by decide⟩ ?_
    refine a_iadd (z := (((i : Nat) : Int) + 1)) dL_law_762 (w_ok (by omega) (by omega)) ?_
    refine a_sld (i + 1) dL_law_763 (by omega) (by omega) ?_
    rw [ha1]
    refine a_aload_n (j := 0) dL_law_764 rfl rfl (Nat.le_of_ble_eq_true rfl) ?_
    refine a_iload_n (j := 3) dL_law_765 rfl rfl ?_
    refine a_iconst dL_law_766 ⟨by decide, by decide⟩ ?_
    refine a_iadd (z := (((i : Nat) : Int) + 2)) dL_law_767 (w_ok (by omega) (by omega)) ?_
    refine a_sld (i + 2) dL_law_768 (by omega) (by omega) ?_
    rw [ha2]
    refine b_callV (d' := d - 1) (mc' := 0) (ms' := 0) (mc1 := mc) (ms1 := ms) (st := []) (b := 0) [vI 0, vI a2] dL_law_769 mwX8_aim lkL_87 (by decide) rfl rc_X8 rfl (Nat.le_of_ble_eq_true rfl) (by omega) (by omega) (by omega) (c_X8_aim (v1 := (N 4)) (v2 := (h 0 3)) (v3 := (N 3)) (v4 := (N 2)) (by omega)  hR.1.1 rfl hR.1.2.2.2.2.2.1 hR.1.2.2.2.2.1 (show 0 ≤ (N 4) ∧ (N 4) ≤ 6 by omega) (show 0 ≤ (h 0 3) ∧ (h 0 3) ≤ 1000 by omega) (fun c1_1_1 c36_2_1 => ?_) (fun c1_1_1 c36_2_1 t44_3_1 => ?_) (fun c1_1_1 c36_2_1 t44_3_1 => ?_) (fun c1_1_1 t9_4_1 => ?_) (fun c1_1_1 t9_4_1 c36_5_1 => ?_))
    · exact absurd c1_1_1 (by decide)
    · exact absurd c1_1_1 (by decide)
    · exact absurd c1_1_1 (by decide)
    · have c1_1_1 : (0 : Int) = (0 : Int) := c1_1_1
      have t9_4_1 : 0 ≤ a2 ∧ a2 < (N 4) := t9_4_1
      show Aj γ mL_law d mc ms Post 772 [(0, vK 0), (1, vA 0), (2, vA 123), (3, vI ((i : Nat) : Int))] [vI (N 2)] (mk (up2 (up2 (up2 h 1 9 a2) 0 3 ((h 0 3) + 1)) 1 0 ((h 0 3) + 1)) τ)
      refine a_aload_n (j := 2) dL_law_772 rfl rfl (Nat.le_of_ble_eq_true rfl) ?_
      refine a_aload_n (j := 0) dL_law_773 rfl rfl (Nat.le_of_ble_eq_true rfl) ?_
      refine a_iload_n (j := 3) dL_law_774 rfl rfl ?_
      refine a_iconst dL_law_775 ⟨by decide, by decide⟩ ?_
      refine a_iadd (z := (((i : Nat) : Int) + 1)) dL_law_776 (w_ok (by omega) (by omega)) ?_
      refine a_sld (i + 1) dL_law_777 (by omega) (by omega) ?_
      rw [ha1]
      refine a_aload_n (j := 0) dL_law_778 rfl rfl (Nat.le_of_ble_eq_true rfl) ?_
      refine a_iload_n (j := 3) dL_law_779 rfl rfl ?_
      refine a_iconst dL_law_780 ⟨by decide, by decide⟩ ?_
      refine a_iadd (z := (((i : Nat) : Int) + 2)) dL_law_781 (w_ok (by omega) (by omega)) ?_
      refine a_sld (i + 2) dL_law_782 (by omega) (by omega) ?_
      rw [ha2]
      refine b_callV (d' := d - 1) (mc' := 0) (ms' := 0) (mc1 := mc) (ms1 := ms) (st := [vI (N 2)]) (b := 123) [vI 0, vI a2] dL_law_783 mwX9_aim lkL_90 (by decide) rfl rc_X9 rfl (Nat.le_of_ble_eq_true rfl) (by omega) (by omega) (by omega) (c_X9_aim (v1 := (N 4)) (v2 := (N 2)) (by omega)  ((up2_ne (by omega)).trans ((up2_ne (by omega)).trans ((up2_ne (by omega)).trans (congrFun hN _)))) ((up2_ne (by omega)).trans ((up2_ne (by omega)).trans ((up2_ne (by omega)).trans ((congrArg (h 124) (show (Int.toNat (2 + 0)) = 2 by omega)).trans (congrFun hN _))))) (show 0 ≤ (N 4) ∧ (N 4) ≤ 6 by omega) (fun t3_1_3 c10_2_3 c23_3_3 => ?_) (fun t3_1_3 c10_2_3 c23_3_3 t31_5_3 => ?_) (fun t3_1_3 c10_2_3 c23_3_3 t31_5_3 => ?_) (fun t3_1_3 c10_2_3 t15_7_3 c23_8_3 => ?_) (fun t3_1_3 c10_2_3 t15_7_3 => ?_) (fun t3_1_3 => ?_))
      · exact absurd c10_2_3 (by decide)
      · exact absurd c10_2_3 (by decide)
      · exact absurd c10_2_3 (by decide)
      · have t3_1_3 : (0 : Int) ≤ (0 : Int) ∧ (0 : Int) ≤ (1 : Int) := t3_1_3
        have c10_2_3 : (0 : Int) = (0 : Int) := c10_2_3
        have t15_7_3 : 0 ≤ a2 ∧ a2 < (N 4) := t15_7_3
        have c23_8_3 : ¬ (0 : Int) = (1 : Int) := c23_8_3
        show Aj γ mL_law d mc ms Post 786 [(0, vK 0), (1, vA 0), (2, vA 123), (3, vI ((i : Nat) : Int))] [vI (N 2), vI (N 2)] (mk (up2 (up2 (up2 (up2 (up2 h 1 9 a2) 0 3 ((h 0 3) + 1)) 1 0 ((h 0 3) + 1)) 124 (Int.toNat (2 + 0)) a2) 123 4 0) τ)
        refine a_icmp_eq (tgt := 1668) dL_law_786 (by decide) (fun c786_5 => ?_) (fun c786_5 => ?_)
        · generalize hHH : (up2 (up2 (up2 (up2 (up2 h 1 9 a2) 0 3 ((h 0 3) + 1)) 1 0 ((h 0 3) + 1)) 124 (Int.toNat (2 + 0)) a2) 123 4 0) = H
          have c1_ : H 1 1 = h 1 1 := by rw [← hHH]; exact ((up2_ne (by omega)).trans ((up2_ne (by omega)).trans ((up2_ne (by omega)).trans ((up2_ne (by omega)).trans ((up2_ne (by omega)).trans rfl)))))
          have d4_ : H 124 4 = N 4 := by rw [← hHH]; exact ((up2_ne (by omega)).trans ((up2_ne (by omega)).trans ((up2_ne (by omega)).trans ((up2_ne (by omega)).trans ((up2_ne (by omega)).trans (congrFun hN _))))))
          have c3_ : H 1 3 = h 1 3 := by rw [← hHH]; exact ((up2_ne (by omega)).trans ((up2_ne (by omega)).trans ((up2_ne (by omega)).trans ((up2_ne (by omega)).trans ((up2_ne (by omega)).trans rfl)))))
          have d5_ : H 124 5 = N 5 := by rw [← hHH]; exact ((up2_ne (by omega)).trans ((up2_ne (by omega)).trans ((up2_ne (by omega)).trans ((up2_ne (by omega)).trans ((up2_ne (by omega)).trans (congrFun hN _))))))
          have c5_ : H 1 5 = h 1 5 := by rw [← hHH]; exact ((up2_ne (by omega)).trans ((up2_ne (by omega)).trans ((up2_ne (by omega)).trans ((up2_ne (by omega)).trans ((up2_ne (by omega)).trans rfl)))))
          have d6_ : H 124 6 = N 6 := by rw [← hHH]; exact ((up2_ne (by omega)).trans ((up2_ne (by omega)).trans ((up2_ne (by omega)).trans ((up2_ne (by omega)).trans ((up2_ne (by omega)).trans (congrFun hN _))))))
          have c7_ : H 1 7 = h 1 7 := by rw [← hHH]; exact ((up2_ne (by omega)).trans ((up2_ne (by omega)).trans ((up2_ne (by omega)).trans ((up2_ne (by omega)).trans ((up2_ne (by omega)).trans rfl)))))
          have d7_ : H 124 7 = N 7 := by rw [← hHH]; exact ((up2_ne (by omega)).trans ((up2_ne (by omega)).trans ((up2_ne (by omega)).trans ((up2_ne (by omega)).trans ((up2_ne (by omega)).trans (congrFun hN _))))))
          have c9_ : H 1 9 = a2 := by rw [← hHH]; exact ((up2_ne (by omega)).trans ((up2_ne (by omega)).trans ((up2_ne (by omega)).trans ((up2_ne (by omega)).trans (up2_hit (by omega) (by omega))))))
          have d2_ : H 124 2 = a2 := by rw [← hHH]; exact ((up2_ne (by omega)).trans (up2_hit (by omega) (by omega)))
          have c10_ : H 1 10 = h 1 10 := by rw [← hHH]; exact ((up2_ne (by omega)).trans ((up2_ne (by omega)).trans ((up2_ne (by omega)).trans ((up2_ne (by omega)).trans ((up2_ne (by omega)).trans rfl)))))
          have d3_ : H 124 3 = N 3 := by rw [← hHH]; exact ((up2_ne (by omega)).trans ((up2_ne (by omega)).trans ((up2_ne (by omega)).trans ((up2_ne (by omega)).trans ((up2_ne (by omega)).trans (congrFun hN _))))))
          have c11_ : H 1 11 = h 1 11 := by rw [← hHH]; exact ((up2_ne (by omega)).trans ((up2_ne (by omega)).trans ((up2_ne (by omega)).trans ((up2_ne (by omega)).trans ((up2_ne (by omega)).trans rfl)))))
          have d1_ : H 124 1 = N 1 := by rw [← hHH]; exact ((up2_ne (by omega)).trans ((up2_ne (by omega)).trans ((up2_ne (by omega)).trans ((up2_ne (by omega)).trans ((up2_ne (by omega)).trans (congrFun hN _))))))
          have c12_ : H 1 12 = h 1 12 := by rw [← hHH]; exact ((up2_ne (by omega)).trans ((up2_ne (by omega)).trans ((up2_ne (by omega)).trans ((up2_ne (by omega)).trans ((up2_ne (by omega)).trans rfl)))))
          have d8_ : H 124 8 = N 8 := by rw [← hHH]; exact ((up2_ne (by omega)).trans ((up2_ne (by omega)).trans ((up2_ne (by omega)).trans ((up2_ne (by omega)).trans ((up2_ne (by omega)).trans (congrFun hN _))))))
          have c15_ : H 1 15 = h 1 15 := by rw [← hHH]; exact ((up2_ne (by omega)).trans ((up2_ne (by omega)).trans ((up2_ne (by omega)).trans ((up2_ne (by omega)).trans ((up2_ne (by omega)).trans rfl)))))
          have d0_ : H 124 0 = N 0 := by rw [← hHH]; exact ((up2_ne (by omega)).trans ((up2_ne (by omega)).trans ((up2_ne (by omega)).trans ((up2_ne (by omega)).trans ((up2_ne (by omega)).trans (congrFun hN _))))))
          have a5_ : ∀ c, 2 ≤ c → c < 32 → H c = h c := fun c q0_ q1_ => by rw [← hHH]; exact ((up2_row (by omega)).trans ((up2_row (by omega)).trans ((up2_row (by omega)).trans ((up2_row (by omega)).trans ((up2_row (by omega)).trans rfl)))))
          have nk_ : ∀ k : Nat, 9 ≤ k → H 124 k = N k := fun k q0_ => by rw [← hHH]; exact ((up2_ne (by omega)).trans ((up2_ne (by omega)).trans ((up2_ne (by omega)).trans ((up2_ne (by omega)).trans ((up2_ne (by omega)).trans (congrFun hN _))))))
          have hW := W_sc (h := h) (h' := H) hX hR a5_ ⟨c1_.trans ((hR.1.1).trans d4_.symm), c3_.trans ((hR.1.2.1).trans d5_.symm), c5_.trans ((hR.1.2.2.1).trans d6_.symm), c7_.trans ((hR.1.2.2.2.1).trans d7_.symm), c9_.trans d2_.symm, c10_.trans ((hR.1.2.2.2.2.2.1).trans d3_.symm), c11_.trans ((hR.1.2.2.2.2.2.2.1).trans d1_.symm), c12_.trans ((hR.1.2.2.2.2.2.2.2.1).trans d8_.symm), c15_.trans ((hR.1.2.2.2.2.2.2.2.2).trans d0_.symm)⟩ d4_ d5_ d6_ (by omega) (by omega) nk_ ⟨by omega, by omega, by omega, by omega, by omega⟩
          have gF : ∀ c, ¬ inW c → H c = h c := fun c q0_ => by unfold inW at q0_; rw [← hHH]; exact ((up2_row (by omega)).trans ((up2_row (by omega)).trans ((up2_row (by omega)).trans ((up2_row (by omega)).trans ((up2_row (by omega)).trans rfl)))))
          have g0 : ∀ k : Nat, k ≠ 3 → H 0 k = h 0 k := fun k q0_ => by rw [← hHH]; exact ((up2_ne (by omega)).trans ((up2_ne (by omega)).trans ((up2_ne (by omega)).trans ((up2_ne (by omega)).trans ((up2_ne (by omega)).trans rfl)))))
          have e03 : H 0 3 = ((h 0 3) + 1) := by rw [← hHH]; exact ((up2_ne (by omega)).trans ((up2_ne (by omega)).trans ((up2_ne (by omega)).trans (up2_hit (by omega) (by omega)))))
          have e10 : H 1 0 = ((h 0 3) + 1) := by rw [← hHH]; exact ((up2_ne (by omega)).trans ((up2_ne (by omega)).trans (up2_hit (by omega) (by omega))))
          have g3 : ∀ k : Nat, k ≠ 4 → H 123 k = h 123 k := fun k q0_ => by rw [← hHH]; exact ((up2_ne (by omega)).trans ((up2_ne (by omega)).trans ((up2_ne (by omega)).trans ((up2_ne (by omega)).trans ((up2_ne (by omega)).trans rfl)))))
          have e4 : H 123 4 = 0 := by rw [← hHH]; exact (up2_hit (by omega) (by omega))
          exact kE H (H 124) J (IV_s hI gF g0 e03 e10 g3 e4 rfl hW.1 hW.2)
        · refine a_iconst dL_law_789 ⟨by decide, by decide⟩ ?_
          exact a_zret dL_law_790 rfl (by first | exact Or.inl rfl | exact Or.inr rfl | omega) (by exfalso; omega)
      · exfalso
        omega
      · have t3_1_3 : ¬ ((0 : Int) ≤ (0 : Int) ∧ (0 : Int) ≤ (1 : Int)) := t3_1_3
        show Aj γ mL_law d mc ms Post 786 [(0, vK 0), (1, vA 0), (2, vA 123), (3, vI ((i : Nat) : Int))] [vI (-1000000001), vI (N 2)] (mk (up2 (up2 (up2 h 1 9 a2) 0 3 ((h 0 3) + 1)) 1 0 ((h 0 3) + 1)) τ)
        refine a_icmp_eq (tgt := 1668) dL_law_786 (by decide) (fun c786_6 => ?_) (fun c786_6 => ?_)
        · exfalso
          omega
        · refine a_iconst dL_law_789 ⟨by decide, by decide⟩ ?_
          exact a_zret dL_law_790 rfl (by first | exact Or.inl rfl | exact Or.inr rfl | omega) (by exfalso; omega)
    · have c1_1_1 : (0 : Int) = (0 : Int) := c1_1_1
      have t9_4_1 : ¬ (0 ≤ a2 ∧ a2 < (N 4)) := t9_4_1
      have c36_5_1 : ¬ (0 : Int) = (1 : Int) := c36_5_1
      show Aj γ mL_law d mc ms Post 772 [(0, vK 0), (1, vA 0), (2, vA 123), (3, vI ((i : Nat) : Int))] [vI (-1000000001)] (mk h τ)
      refine a_aload_n (j := 2) dL_law_772 rfl rfl (Nat.le_of_ble_eq_true rfl) ?_
      refine a_aload_n (j := 0) dL_law_773 rfl rfl (Nat.le_of_ble_eq_true rfl) ?_
      refine a_iload_n (j := 3) dL_law_774 rfl rfl ?_
      refine a_iconst dL_law_775 ⟨by decide, by decide⟩ ?_
      refine a_iadd (z := (((i : Nat) : Int) + 1)) dL_law_776 (w_ok (by omega) (by omega)) ?_
      refine a_sld (i + 1) dL_law_777 (by omega) (by omega) ?_
      rw [ha1]
      refine a_aload_n (j := 0) dL_law_778 rfl rfl (Nat.le_of_ble_eq_true rfl) ?_
      refine a_iload_n (j := 3) dL_law_779 rfl rfl ?_
      refine a_iconst dL_law_780 ⟨by decide, by decide⟩ ?_
      refine a_iadd (z := (((i : Nat) : Int) + 2)) dL_law_781 (w_ok (by omega) (by omega)) ?_
      refine a_sld (i + 2) dL_law_782 (by omega) (by omega) ?_
      rw [ha2]
      refine b_callV (d' := d - 1) (mc' := 0) (ms' := 0) (mc1 := mc) (ms1 := ms) (st := [vI (-1000000001)]) (b := 123) [vI 0, vI a2] dL_law_783 mwX9_aim lkL_90 (by decide) rfl rc_X9 rfl (Nat.le_of_ble_eq_true rfl) (by omega) (by omega) (by omega) (c_X9_aim (v1 := (N 4)) (v2 := (N 2)) (by omega)  (congrFun hN _) ((congrArg (h 124) (show (Int.toNat (2 + 0)) = 2 by omega)).trans (congrFun hN _)) (show 0 ≤ (N 4) ∧ (N 4) ≤ 6 by omega) (fun t3_1_7 c10_2_7 c23_3_7 => ?_) (fun t3_1_7 c10_2_7 c23_3_7 t31_5_7 => ?_) (fun t3_1_7 c10_2_7 c23_3_7 t31_5_7 => ?_) (fun t3_1_7 c10_2_7 t15_7_7 c23_8_7 => ?_) (fun t3_1_7 c10_2_7 t15_7_7 => ?_) (fun t3_1_7 => ?_))
      · exact absurd c10_2_7 (by decide)
      · exact absurd c10_2_7 (by decide)
      · exact absurd c10_2_7 (by decide)
      · exfalso
        omega
      · have t3_1_7 : (0 : Int) ≤ (0 : Int) ∧ (0 : Int) ≤ (1 : Int) := t3_1_7
        have c10_2_7 : (0 : Int) = (0 : Int) := c10_2_7
        have t15_7_7 : ¬ (0 ≤ a2 ∧ a2 < (N 4)) := t15_7_7
        show Aj γ mL_law d mc ms Post 786 [(0, vK 0), (1, vA 0), (2, vA 123), (3, vI ((i : Nat) : Int))] [vI (-1000000001), vI (-1000000001)] (mk h τ)
        refine a_icmp_eq (tgt := 1668) dL_law_786 (by decide) (fun _ => ?_) (fun c => absurd c (by decide))
        exact kE h N J (IV_up (by omega) hI)
      · have t3_1_7 : ¬ ((0 : Int) ≤ (0 : Int) ∧ (0 : Int) ≤ (1 : Int)) := t3_1_7
        show Aj γ mL_law d mc ms Post 786 [(0, vK 0), (1, vA 0), (2, vA 123), (3, vI ((i : Nat) : Int))] [vI (-1000000001), vI (-1000000001)] (mk h τ)
        refine a_icmp_eq (tgt := 1668) dL_law_786 (by decide) (fun _ => ?_) (fun c => absurd c (by decide))
        exact kE h N J (IV_up (by omega) hI)
  · skip
    refine a_aload_n (j := 1) dL_law_758 rfl rfl (Nat.le_of_ble_eq_true rfl) ?_
    refine a_aload_n (j := 0) dL_law_759 rfl rfl (Nat.le_of_ble_eq_true rfl) ?_
    refine a_iload_n (j := 3) dL_law_760 rfl rfl ?_
    refine a_iconst dL_law_761 ⟨by decide, by decide⟩ ?_
    refine a_iadd (z := (((i : Nat) : Int) + 1)) dL_law_762 (w_ok (by omega) (by omega)) ?_
    refine a_sld (i + 1) dL_law_763 (by omega) (by omega) ?_
    rw [ha1]
    refine a_aload_n (j := 0) dL_law_764 rfl rfl (Nat.le_of_ble_eq_true rfl) ?_
    refine a_iload_n (j := 3) dL_law_765 rfl rfl ?_
    refine a_iconst dL_law_766 ⟨by decide, by decide⟩ ?_
    refine a_iadd (z := (((i : Nat) : Int) + 2)) dL_law_767 (w_ok (by omega) (by omega)) ?_
    refine a_sld (i + 2) dL_law_768 (by omega) (by omega) ?_
    rw [ha2]
    refine b_callV (d' := d - 1) (mc' := 0) (ms' := 0) (mc1 := mc) (ms1 := ms) (st := []) (b := 0) [vI 1, vI a2] dL_law_769 mwX8_aim lkL_87 (by decide) rfl rc_X8 rfl (Nat.le_of_ble_eq_true rfl) (by omega) (by omega) (by omega) (c_X8_aim (v1 := (N 4)) (v2 := (h 0 3)) (v3 := (N 3)) (v4 := (N 2)) (by omega)  hR.1.1 rfl hR.1.2.2.2.2.2.1 hR.1.2.2.2.2.1 (show 0 ≤ (N 4) ∧ (N 4) ≤ 6 by omega) (show 0 ≤ (h 0 3) ∧ (h 0 3) ≤ 1000 by omega) (fun c1_1_1 c36_2_1 => ?_) (fun c1_1_1 c36_2_1 t44_3_1 => ?_) (fun c1_1_1 c36_2_1 t44_3_1 => ?_) (fun c1_1_1 t9_4_1 => ?_) (fun c1_1_1 t9_4_1 c36_5_1 => ?_))
    · exact absurd c36_2_1 (by decide)
    · have c1_1_1 : ¬ (1 : Int) = (0 : Int) := c1_1_1
      have c36_2_1 : (1 : Int) = (1 : Int) := c36_2_1
      have t44_3_1 : 0 ≤ a2 ∧ a2 ≤ 2999 := t44_3_1
      show Aj γ mL_law d mc ms Post 772 [(0, vK 0), (1, vA 0), (2, vA 123), (3, vI ((i : Nat) : Int))] [vI (N 3)] (mk (up2 (up2 (up2 h 1 10 a2) 0 3 ((h 0 3) + 1)) 1 0 ((h 0 3) + 1)) τ)
      refine a_aload_n (j := 2) dL_law_772 rfl rfl (Nat.le_of_ble_eq_true rfl) ?_
      refine a_aload_n (j := 0) dL_law_773 rfl rfl (Nat.le_of_ble_eq_true rfl) ?_
      refine a_iload_n (j := 3) dL_law_774 rfl rfl ?_
      refine a_iconst dL_law_775 ⟨by decide, by decide⟩ ?_
      refine a_iadd (z := (((i : Nat) : Int) + 1)) dL_law_776 (w_ok (by omega) (by omega)) ?_
      refine a_sld (i + 1) dL_law_777 (by omega) (by omega) ?_
      rw [ha1]
      refine a_aload_n (j := 0) dL_law_778 rfl rfl (Nat.le_of_ble_eq_true rfl) ?_
      refine a_iload_n (j := 3) dL_law_779 rfl rfl ?_
      refine a_iconst dL_law_780 ⟨by decide, by decide⟩ ?_
      refine a_iadd (z := (((i : Nat) : Int) + 2)) dL_law_781 (w_ok (by omega) (by omega)) ?_
      refine a_sld (i + 2) dL_law_782 (by omega) (by omega) ?_
      rw [ha2]
      refine b_callV (d' := d - 1) (mc' := 0) (ms' := 0) (mc1 := mc) (ms1 := ms) (st := [vI (N 3)]) (b := 123) [vI 1, vI a2] dL_law_783 mwX9_aim lkL_90 (by decide) rfl rc_X9 rfl (Nat.le_of_ble_eq_true rfl) (by omega) (by omega) (by omega) (c_X9_aim (v1 := (N 4)) (v2 := (N 3)) (by omega)  ((up2_ne (by omega)).trans ((up2_ne (by omega)).trans ((up2_ne (by omega)).trans (congrFun hN _)))) ((up2_ne (by omega)).trans ((up2_ne (by omega)).trans ((up2_ne (by omega)).trans ((congrArg (h 124) (show (Int.toNat (2 + 1)) = 3 by omega)).trans (congrFun hN _))))) (show 0 ≤ (N 4) ∧ (N 4) ≤ 6 by omega) (fun t3_1_3 c10_2_3 c23_3_3 => ?_) (fun t3_1_3 c10_2_3 c23_3_3 t31_5_3 => ?_) (fun t3_1_3 c10_2_3 c23_3_3 t31_5_3 => ?_) (fun t3_1_3 c10_2_3 t15_7_3 c23_8_3 => ?_) (fun t3_1_3 c10_2_3 t15_7_3 => ?_) (fun t3_1_3 => ?_))
      · exact absurd c23_3_3 (by decide)
      · have t3_1_3 : (0 : Int) ≤ (1 : Int) ∧ (1 : Int) ≤ (1 : Int) := t3_1_3
        have c10_2_3 : ¬ (1 : Int) = (0 : Int) := c10_2_3
        have c23_3_3 : (1 : Int) = (1 : Int) := c23_3_3
        have t31_5_3 : 0 ≤ a2 ∧ a2 ≤ 2999 := t31_5_3
        show Aj γ mL_law d mc ms Post 786 [(0, vK 0), (1, vA 0), (2, vA 123), (3, vI ((i : Nat) : Int))] [vI (N 3), vI (N 3)] (mk (up2 (up2 (up2 (up2 (up2 h 1 10 a2) 0 3 ((h 0 3) + 1)) 1 0 ((h 0 3) + 1)) 124 (Int.toNat (2 + 1)) a2) 123 4 0) τ)
        refine a_icmp_eq (tgt := 1668) dL_law_786 (by decide) (fun c786_5 => ?_) (fun c786_5 => ?_)
        · generalize hHH : (up2 (up2 (up2 (up2 (up2 h 1 10 a2) 0 3 ((h 0 3) + 1)) 1 0 ((h 0 3) + 1)) 124 (Int.toNat (2 + 1)) a2) 123 4 0) = H
          have c1_ : H 1 1 = h 1 1 := by rw [← hHH]; exact ((up2_ne (by omega)).trans ((up2_ne (by omega)).trans ((up2_ne (by omega)).trans ((up2_ne (by omega)).trans ((up2_ne (by omega)).trans rfl)))))
          have d4_ : H 124 4 = N 4 := by rw [← hHH]; exact ((up2_ne (by omega)).trans ((up2_ne (by omega)).trans ((up2_ne (by omega)).trans ((up2_ne (by omega)).trans ((up2_ne (by omega)).trans (congrFun hN _))))))
          have c3_ : H 1 3 = h 1 3 := by rw [← hHH]; exact ((up2_ne (by omega)).trans ((up2_ne (by omega)).trans ((up2_ne (by omega)).trans ((up2_ne (by omega)).trans ((up2_ne (by omega)).trans rfl)))))
          have d5_ : H 124 5 = N 5 := by rw [← hHH]; exact ((up2_ne (by omega)).trans ((up2_ne (by omega)).trans ((up2_ne (by omega)).trans ((up2_ne (by omega)).trans ((up2_ne (by omega)).trans (congrFun hN _))))))
          have c5_ : H 1 5 = h 1 5 := by rw [← hHH]; exact ((up2_ne (by omega)).trans ((up2_ne (by omega)).trans ((up2_ne (by omega)).trans ((up2_ne (by omega)).trans ((up2_ne (by omega)).trans rfl)))))
          have d6_ : H 124 6 = N 6 := by rw [← hHH]; exact ((up2_ne (by omega)).trans ((up2_ne (by omega)).trans ((up2_ne (by omega)).trans ((up2_ne (by omega)).trans ((up2_ne (by omega)).trans (congrFun hN _))))))
          have c7_ : H 1 7 = h 1 7 := by rw [← hHH]; exact ((up2_ne (by omega)).trans ((up2_ne (by omega)).trans ((up2_ne (by omega)).trans ((up2_ne (by omega)).trans ((up2_ne (by omega)).trans rfl)))))
          have d7_ : H 124 7 = N 7 := by rw [← hHH]; exact ((up2_ne (by omega)).trans ((up2_ne (by omega)).trans ((up2_ne (by omega)).trans ((up2_ne (by omega)).trans ((up2_ne (by omega)).trans (congrFun hN _))))))
          have c9_ : H 1 9 = h 1 9 := by rw [← hHH]; exact ((up2_ne (by omega)).trans ((up2_ne (by omega)).trans ((up2_ne (by omega)).trans ((up2_ne (by omega)).trans ((up2_ne (by omega)).trans rfl)))))
          have d2_ : H 124 2 = N 2 := by rw [← hHH]; exact ((up2_ne (by omega)).trans ((up2_ne (by omega)).trans ((up2_ne (by omega)).trans ((up2_ne (by omega)).trans ((up2_ne (by omega)).trans (congrFun hN _))))))
          have c10_ : H 1 10 = a2 := by rw [← hHH]; exact ((up2_ne (by omega)).trans ((up2_ne (by omega)).trans ((up2_ne (by omega)).trans ((up2_ne (by omega)).trans (up2_hit (by omega) (by omega))))))
          have d3_ : H 124 3 = a2 := by rw [← hHH]; exact ((up2_ne (by omega)).trans (up2_hit (by omega) (by omega)))
          have c11_ : H 1 11 = h 1 11 := by rw [← hHH]; exact ((up2_ne (by omega)).trans ((up2_ne (by omega)).trans ((up2_ne (by omega)).trans ((up2_ne (by omega)).trans ((up2_ne (by omega)).trans rfl)))))
          have d1_ : H 124 1 = N 1 := by rw [← hHH]; exact ((up2_ne (by omega)).trans ((up2_ne (by omega)).trans ((up2_ne (by omega)).trans ((up2_ne (by omega)).trans ((up2_ne (by omega)).trans (congrFun hN _))))))
          have c12_ : H 1 12 = h 1 12 := by rw [← hHH]; exact ((up2_ne (by omega)).trans ((up2_ne (by omega)).trans ((up2_ne (by omega)).trans ((up2_ne (by omega)).trans ((up2_ne (by omega)).trans rfl)))))
          have d8_ : H 124 8 = N 8 := by rw [← hHH]; exact ((up2_ne (by omega)).trans ((up2_ne (by omega)).trans ((up2_ne (by omega)).trans ((up2_ne (by omega)).trans ((up2_ne (by omega)).trans (congrFun hN _))))))
          have c15_ : H 1 15 = h 1 15 := by rw [← hHH]; exact ((up2_ne (by omega)).trans ((up2_ne (by omega)).trans ((up2_ne (by omega)).trans ((up2_ne (by omega)).trans ((up2_ne (by omega)).trans rfl)))))
          have d0_ : H 124 0 = N 0 := by rw [← hHH]; exact ((up2_ne (by omega)).trans ((up2_ne (by omega)).trans ((up2_ne (by omega)).trans ((up2_ne (by omega)).trans ((up2_ne (by omega)).trans (congrFun hN _))))))
          have a5_ : ∀ c, 2 ≤ c → c < 32 → H c = h c := fun c q0_ q1_ => by rw [← hHH]; exact ((up2_row (by omega)).trans ((up2_row (by omega)).trans ((up2_row (by omega)).trans ((up2_row (by omega)).trans ((up2_row (by omega)).trans rfl)))))
          have nk_ : ∀ k : Nat, 9 ≤ k → H 124 k = N k := fun k q0_ => by rw [← hHH]; exact ((up2_ne (by omega)).trans ((up2_ne (by omega)).trans ((up2_ne (by omega)).trans ((up2_ne (by omega)).trans ((up2_ne (by omega)).trans (congrFun hN _))))))
          have hW := W_sc (h := h) (h' := H) hX hR a5_ ⟨c1_.trans ((hR.1.1).trans d4_.symm), c3_.trans ((hR.1.2.1).trans d5_.symm), c5_.trans ((hR.1.2.2.1).trans d6_.symm), c7_.trans ((hR.1.2.2.2.1).trans d7_.symm), c9_.trans ((hR.1.2.2.2.2.1).trans d2_.symm), c10_.trans d3_.symm, c11_.trans ((hR.1.2.2.2.2.2.2.1).trans d1_.symm), c12_.trans ((hR.1.2.2.2.2.2.2.2.1).trans d8_.symm), c15_.trans ((hR.1.2.2.2.2.2.2.2.2).trans d0_.symm)⟩ d4_ d5_ d6_ (by omega) (by omega) nk_ ⟨by omega, by omega, by omega, by omega, by omega⟩
          have gF : ∀ c, ¬ inW c → H c = h c := fun c q0_ => by unfold inW at q0_; rw [← hHH]; exact ((up2_row (by omega)).trans ((up2_row (by omega)).trans ((up2_row (by omega)).trans ((up2_row (by omega)).trans ((up2_row (by omega)).trans rfl)))))
          have g0 : ∀ k : Nat, k ≠ 3 → H 0 k = h 0 k := fun k q0_ => by rw [← hHH]; exact ((up2_ne (by omega)).trans ((up2_ne (by omega)).trans ((up2_ne (by omega)).trans ((up2_ne (by omega)).trans ((up2_ne (by omega)).trans rfl)))))
          have e03 : H 0 3 = ((h 0 3) + 1) := by rw [← hHH]; exact ((up2_ne (by omega)).trans ((up2_ne (by omega)).trans ((up2_ne (by omega)).trans (up2_hit (by omega) (by omega)))))
          have e10 : H 1 0 = ((h 0 3) + 1) := by rw [← hHH]; exact ((up2_ne (by omega)).trans ((up2_ne (by omega)).trans (up2_hit (by omega) (by omega))))
          have g3 : ∀ k : Nat, k ≠ 4 → H 123 k = h 123 k := fun k q0_ => by rw [← hHH]; exact ((up2_ne (by omega)).trans ((up2_ne (by omega)).trans ((up2_ne (by omega)).trans ((up2_ne (by omega)).trans ((up2_ne (by omega)).trans rfl)))))
          have e4 : H 123 4 = 0 := by rw [← hHH]; exact (up2_hit (by omega) (by omega))
          exact kE H (H 124) J (IV_s hI gF g0 e03 e10 g3 e4 rfl hW.1 hW.2)
        · refine a_iconst dL_law_789 ⟨by decide, by decide⟩ ?_
          exact a_zret dL_law_790 rfl (by first | exact Or.inl rfl | exact Or.inr rfl | omega) (by exfalso; omega)
      · exfalso
        omega
      · exact absurd c10_2_3 (by decide)
      · exact absurd c10_2_3 (by decide)
      · have t3_1_3 : ¬ ((0 : Int) ≤ (1 : Int) ∧ (1 : Int) ≤ (1 : Int)) := t3_1_3
        show Aj γ mL_law d mc ms Post 786 [(0, vK 0), (1, vA 0), (2, vA 123), (3, vI ((i : Nat) : Int))] [vI (-1000000001), vI (N 3)] (mk (up2 (up2 (up2 h 1 10 a2) 0 3 ((h 0 3) + 1)) 1 0 ((h 0 3) + 1)) τ)
        refine a_icmp_eq (tgt := 1668) dL_law_786 (by decide) (fun c786_6 => ?_) (fun c786_6 => ?_)
        · exfalso
          omega
        · refine a_iconst dL_law_789 ⟨by decide, by decide⟩ ?_
          exact a_zret dL_law_790 rfl (by first | exact Or.inl rfl | exact Or.inr rfl | omega) (by exfalso; omega)
    · have c1_1_1 : ¬ (1 : Int) = (0 : Int) := c1_1_1
      have c36_2_1 : (1 : Int) = (1 : Int) := c36_2_1
      have t44_3_1 : ¬ (0 ≤ a2 ∧ a2 ≤ 2999) := t44_3_1
      show Aj γ mL_law d mc ms Post 772 [(0, vK 0), (1, vA 0), (2, vA 123), (3, vI ((i : Nat) : Int))] [vI (-1000000001)] (mk h τ)
      refine a_aload_n (j := 2) dL_law_772 rfl rfl (Nat.le_of_ble_eq_true rfl) ?_
      refine a_aload_n (j := 0) dL_law_773 rfl rfl (Nat.le_of_ble_eq_true rfl) ?_
      refine a_iload_n (j := 3) dL_law_774 rfl rfl ?_
      refine a_iconst dL_law_775 ⟨by decide, by decide⟩ ?_
      refine a_iadd (z := (((i : Nat) : Int) + 1)) dL_law_776 (w_ok (by omega) (by omega)) ?_
      refine a_sld (i + 1) dL_law_777 (by omega) (by omega) ?_
      rw [ha1]
      refine a_aload_n (j := 0) dL_law_778 rfl rfl (Nat.le_of_ble_eq_true rfl) ?_
      refine a_iload_n (j := 3) dL_law_779 rfl rfl ?_
      refine a_iconst dL_law_780 ⟨by decide, by decide⟩ ?_
      refine a_iadd (z := (((i : Nat) : Int) + 2)) dL_law_781 (w_ok (by omega) (by omega)) ?_
      refine a_sld (i + 2) dL_law_782 (by omega) (by omega) ?_
      rw [ha2]
      refine b_callV (d' := d - 1) (mc' := 0) (ms' := 0) (mc1 := mc) (ms1 := ms) (st := [vI (-1000000001)]) (b := 123) [vI 1, vI a2] dL_law_783 mwX9_aim lkL_90 (by decide) rfl rc_X9 rfl (Nat.le_of_ble_eq_true rfl) (by omega) (by omega) (by omega) (c_X9_aim (v1 := (N 4)) (v2 := (N 3)) (by omega)  (congrFun hN _) ((congrArg (h 124) (show (Int.toNat (2 + 1)) = 3 by omega)).trans (congrFun hN _)) (show 0 ≤ (N 4) ∧ (N 4) ≤ 6 by omega) (fun t3_1_7 c10_2_7 c23_3_7 => ?_) (fun t3_1_7 c10_2_7 c23_3_7 t31_5_7 => ?_) (fun t3_1_7 c10_2_7 c23_3_7 t31_5_7 => ?_) (fun t3_1_7 c10_2_7 t15_7_7 c23_8_7 => ?_) (fun t3_1_7 c10_2_7 t15_7_7 => ?_) (fun t3_1_7 => ?_))
      · exact absurd c23_3_7 (by decide)
      · exfalso
        omega
      · have t3_1_7 : (0 : Int) ≤ (1 : Int) ∧ (1 : Int) ≤ (1 : Int) := t3_1_7
        have c10_2_7 : ¬ (1 : Int) = (0 : Int) := c10_2_7
        have c23_3_7 : (1 : Int) = (1 : Int) := c23_3_7
        have t31_5_7 : ¬ (0 ≤ a2 ∧ a2 ≤ 2999) := t31_5_7
        show Aj γ mL_law d mc ms Post 786 [(0, vK 0), (1, vA 0), (2, vA 123), (3, vI ((i : Nat) : Int))] [vI (-1000000001), vI (-1000000001)] (mk h τ)
        refine a_icmp_eq (tgt := 1668) dL_law_786 (by decide) (fun _ => ?_) (fun c => absurd c (by decide))
        exact kE h N J (IV_up (by omega) hI)
      · exact absurd c10_2_7 (by decide)
      · exact absurd c10_2_7 (by decide)
      · have t3_1_7 : ¬ ((0 : Int) ≤ (1 : Int) ∧ (1 : Int) ≤ (1 : Int)) := t3_1_7
        show Aj γ mL_law d mc ms Post 786 [(0, vK 0), (1, vA 0), (2, vA 123), (3, vI ((i : Nat) : Int))] [vI (-1000000001), vI (-1000000001)] (mk h τ)
        refine a_icmp_eq (tgt := 1668) dL_law_786 (by decide) (fun _ => ?_) (fun c => absurd c (by decide))
        exact kE h N J (IV_up (by omega) hI)
    · exact absurd c1_1_1 (by decide)
    · exact absurd c1_1_1 (by decide)
  · skip
    refine a_aload_n (j := 1) dL_law_758 rfl rfl (Nat.le_of_ble_eq_true rfl) ?_
    refine a_aload_n (j := 0) dL_law_759 rfl rfl (Nat.le_of_ble_eq_true rfl) ?_
    refine a_iload_n (j := 3) dL_law_760 rfl rfl ?_
    refine a_iconst dL_law_761 ⟨by decide, by decide⟩ ?_
    refine a_iadd (z := (((i : Nat) : Int) + 1)) dL_law_762 (w_ok (by omega) (by omega)) ?_
    refine a_sld (i + 1) dL_law_763 (by omega) (by omega) ?_
    rw [ha1]
    refine a_aload_n (j := 0) dL_law_764 rfl rfl (Nat.le_of_ble_eq_true rfl) ?_
    refine a_iload_n (j := 3) dL_law_765 rfl rfl ?_
    refine a_iconst dL_law_766 ⟨by decide, by decide⟩ ?_
    refine a_iadd (z := (((i : Nat) : Int) + 2)) dL_law_767 (w_ok (by omega) (by omega)) ?_
    refine a_sld (i + 2) dL_law_768 (by omega) (by omega) ?_
    rw [ha2]
    refine b_callV (d' := d - 1) (mc' := 0) (ms' := 0) (mc1 := mc) (ms1 := ms) (st := []) (b := 0) [vI a1, vI a2] dL_law_769 mwX8_aim lkL_87 (by decide) rfl rc_X8 rfl (Nat.le_of_ble_eq_true rfl) (by omega) (by omega) (by omega) (c_X8_aim (v1 := (N 4)) (v2 := (h 0 3)) (v3 := (N 3)) (v4 := (N 2)) (by omega)  hR.1.1 rfl hR.1.2.2.2.2.2.1 hR.1.2.2.2.2.1 (show 0 ≤ (N 4) ∧ (N 4) ≤ 6 by omega) (show 0 ≤ (h 0 3) ∧ (h 0 3) ≤ 1000 by omega) (fun c1_1_1 c36_2_1 => ?_) (fun c1_1_1 c36_2_1 t44_3_1 => ?_) (fun c1_1_1 c36_2_1 t44_3_1 => ?_) (fun c1_1_1 t9_4_1 => ?_) (fun c1_1_1 t9_4_1 c36_5_1 => ?_))
    · have c1_1_1 : ¬ a1 = 0 := c1_1_1
      have c36_2_1 : ¬ a1 = 1 := c36_2_1
      show Aj γ mL_law d mc ms Post 772 [(0, vK 0), (1, vA 0), (2, vA 123), (3, vI ((i : Nat) : Int))] [vI (-1000000001)] (mk h τ)
      refine a_aload_n (j := 2) dL_law_772 rfl rfl (Nat.le_of_ble_eq_true rfl) ?_
      refine a_aload_n (j := 0) dL_law_773 rfl rfl (Nat.le_of_ble_eq_true rfl) ?_
      refine a_iload_n (j := 3) dL_law_774 rfl rfl ?_
      refine a_iconst dL_law_775 ⟨by decide, by decide⟩ ?_
      refine a_iadd (z := (((i : Nat) : Int) + 1)) dL_law_776 (w_ok (by omega) (by omega)) ?_
      refine a_sld (i + 1) dL_law_777 (by omega) (by omega) ?_
      rw [ha1]
      refine a_aload_n (j := 0) dL_law_778 rfl rfl (Nat.le_of_ble_eq_true rfl) ?_
      refine a_iload_n (j := 3) dL_law_779 rfl rfl ?_
      refine a_iconst dL_law_780 ⟨by decide, by decide⟩ ?_
      refine a_iadd (z := (((i : Nat) : Int) + 2)) dL_law_781 (w_ok (by omega) (by omega)) ?_
      refine a_sld (i + 2) dL_law_782 (by omega) (by omega) ?_
      rw [ha2]
      refine b_callV (d' := d - 1) (mc' := 0) (ms' := 0) (mc1 := mc) (ms1 := ms) (st := [vI (-1000000001)]) (b := 123) [vI a1, vI a2] dL_law_783 mwX9_aim lkL_90 (by decide) rfl rc_X9 rfl (Nat.le_of_ble_eq_true rfl) (by omega) (by omega) (by omega) (c_X9_aim (v1 := (N 4)) (v2 := (N (Int.toNat (2 + a1)))) (by omega)  (congrFun hN _) (congrFun hN _) (show 0 ≤ (N 4) ∧ (N 4) ≤ 6 by omega) (fun t3_1_3 c10_2_3 c23_3_3 => ?_) (fun t3_1_3 c10_2_3 c23_3_3 t31_5_3 => ?_) (fun t3_1_3 c10_2_3 c23_3_3 t31_5_3 => ?_) (fun t3_1_3 c10_2_3 t15_7_3 c23_8_3 => ?_) (fun t3_1_3 c10_2_3 t15_7_3 => ?_) (fun t3_1_3 => ?_))
      · exfalso
        omega
      · exfalso
        omega
      · exfalso
        omega
      · exfalso
        omega
      · exfalso
        omega
      · have t3_1_3 : ¬ (0 ≤ a1 ∧ a1 ≤ 1) := t3_1_3
        show Aj γ mL_law d mc ms Post 786 [(0, vK 0), (1, vA 0), (2, vA 123), (3, vI ((i : Nat) : Int))] [vI (-1000000001), vI (-1000000001)] (mk h τ)
        refine a_icmp_eq (tgt := 1668) dL_law_786 (by decide) (fun _ => ?_) (fun c => absurd c (by decide))
        exact kE h N J (IV_up (by omega) hI)
    · have c1_1_1 : ¬ a1 = 0 := c1_1_1
      have c36_2_1 : a1 = 1 := c36_2_1
      have t44_3_1 : 0 ≤ a2 ∧ a2 ≤ 2999 := t44_3_1
      show Aj γ mL_law d mc ms Post 772 [(0, vK 0), (1, vA 0), (2, vA 123), (3, vI ((i : Nat) : Int))] [vI (N 3)] (mk (up2 (up2 (up2 h 1 10 a2) 0 3 ((h 0 3) + 1)) 1 0 ((h 0 3) + 1)) τ)
      refine a_aload_n (j := 2) dL_law_772 rfl rfl (Nat.le_of_ble_eq_true rfl) ?_
      refine a_aload_n (j := 0) dL_law_773 rfl rfl (Nat.le_of_ble_eq_true rfl) ?_
      refine a_iload_n (j := 3) dL_law_774 rfl rfl ?_
      refine a_iconst dL_law_775 ⟨by decide, by decide⟩ ?_
      refine a_iadd (z := (((i : Nat) : Int) + 1)) dL_law_776 (w_ok (by omega) (by omega)) ?_
      refine a_sld (i + 1) dL_law_777 (by omega) (by omega) ?_
      rw [ha1]
      refine a_aload_n (j := 0) dL_law_778 rfl rfl (Nat.le_of_ble_eq_true rfl) ?_
      refine a_iload_n (j := 3) dL_law_779 rfl rfl ?_
      refine a_iconst dL_law_780 ⟨by decide, by decide⟩ ?_
      refine a_iadd (z := (((i : Nat) : Int) + 2)) dL_law_781 (w_ok (by omega) (by omega)) ?_
      refine a_sld (i + 2) dL_law_782 (by omega) (by omega) ?_
      rw [ha2]
      refine b_callV (d' := d - 1) (mc' := 0) (ms' := 0) (mc1 := mc) (ms1 := ms) (st := [vI (N 3)]) (b := 123) [vI a1, vI a2] dL_law_783 mwX9_aim lkL_90 (by decide) rfl rc_X9 rfl (Nat.le_of_ble_eq_true rfl) (by omega) (by omega) (by omega) (c_X9_aim (v1 := (N 4)) (v2 := (N (Int.toNat (2 + a1)))) (by omega)  ((up2_ne (by omega)).trans ((up2_ne (by omega)).trans ((up2_ne (by omega)).trans (congrFun hN _)))) ((up2_ne (by omega)).trans ((up2_ne (by omega)).trans ((up2_ne (by omega)).trans (congrFun hN _)))) (show 0 ≤ (N 4) ∧ (N 4) ≤ 6 by omega) (fun t3_1_5 c10_2_5 c23_3_5 => ?_) (fun t3_1_5 c10_2_5 c23_3_5 t31_5_5 => ?_) (fun t3_1_5 c10_2_5 c23_3_5 t31_5_5 => ?_) (fun t3_1_5 c10_2_5 t15_7_5 c23_8_5 => ?_) (fun t3_1_5 c10_2_5 t15_7_5 => ?_) (fun t3_1_5 => ?_))
      · exfalso
        omega
      · exfalso
        omega
      · exfalso
        omega
      · exfalso
        omega
      · exfalso
        omega
      · have t3_1_5 : ¬ (0 ≤ a1 ∧ a1 ≤ 1) := t3_1_5
        show Aj γ mL_law d mc ms Post 786 [(0, vK 0), (1, vA 0), (2, vA 123), (3, vI ((i : Nat) : Int))] [vI (-1000000001), vI (N 3)] (mk (up2 (up2 (up2 h 1 10 a2) 0 3 ((h 0 3) + 1)) 1 0 ((h 0 3) + 1)) τ)
        refine a_icmp_eq (tgt := 1668) dL_law_786 (by decide) (fun c786_7 => ?_) (fun c786_7 => ?_)
        · exfalso
          omega
        · refine a_iconst dL_law_789 ⟨by decide, by decide⟩ ?_
          exact a_zret dL_law_790 rfl (by first | exact Or.inl rfl | exact Or.inr rfl | omega) (by exfalso; omega)
    · have c1_1_1 : ¬ a1 = 0 := c1_1_1
      have c36_2_1 : a1 = 1 := c36_2_1
      have t44_3_1 : ¬ (0 ≤ a2 ∧ a2 ≤ 2999) := t44_3_1
      show Aj γ mL_law d mc ms Post 772 [(0, vK 0), (1, vA 0), (2, vA 123), (3, vI ((i : Nat) : Int))] [vI (-1000000001)] (mk h τ)
      refine a_aload_n (j := 2) dL_law_772 rfl rfl (Nat.le_of_ble_eq_true rfl) ?_
      refine a_aload_n (j := 0) dL_law_773 rfl rfl (Nat.le_of_ble_eq_true rfl) ?_
      refine a_iload_n (j := 3) dL_law_774 rfl rfl ?_
      refine a_iconst dL_law_775 ⟨by decide, by decide⟩ ?_
      refine a_iadd (z := (((i : Nat) : Int) + 1)) dL_law_776 (w_ok (by omega) (by omega)) ?_
      refine a_sld (i + 1) dL_law_777 (by omega) (by omega) ?_
      rw [ha1]
      refine a_aload_n (j := 0) dL_law_778 rfl rfl (Nat.le_of_ble_eq_true rfl) ?_
      refine a_iload_n (j := 3) dL_law_779 rfl rfl ?_
      refine a_iconst dL_law_780 ⟨by decide, by decide⟩ ?_
      refine a_iadd (z := (((i : Nat) : Int) + 2)) dL_law_781 (w_ok (by omega) (by omega)) ?_
      refine a_sld (i + 2) dL_law_782 (by omega) (by omega) ?_
      rw [ha2]
      refine b_callV (d' := d - 1) (mc' := 0) (ms' := 0) (mc1 := mc) (ms1 := ms) (st := [vI (-1000000001)]) (b := 123) [vI a1, vI a2] dL_law_783 mwX9_aim lkL_90 (by decide) rfl rc_X9 rfl (Nat.le_of_ble_eq_true rfl) (by omega) (by omega) (by omega) (c_X9_aim (v1 := (N 4)) (v2 := (N (Int.toNat (2 + a1)))) (by omega)  (congrFun hN _) (congrFun hN _) (show 0 ≤ (N 4) ∧ (N 4) ≤ 6 by omega) (fun t3_1_8 c10_2_8 c23_3_8 => ?_) (fun t3_1_8 c10_2_8 c23_3_8 t31_5_8 => ?_) (fun t3_1_8 c10_2_8 c23_3_8 t31_5_8 => ?_) (fun t3_1_8 c10_2_8 t15_7_8 c23_8_8 => ?_) (fun t3_1_8 c10_2_8 t15_7_8 => ?_) (fun t3_1_8 => ?_))
      · exfalso
        omega
      · exfalso
        omega
      · exfalso
        omega
      · exfalso
        omega
      · exfalso
        omega
      · have t3_1_8 : ¬ (0 ≤ a1 ∧ a1 ≤ 1) := t3_1_8
        show Aj γ mL_law d mc ms Post 786 [(0, vK 0), (1, vA 0), (2, vA 123), (3, vI ((i : Nat) : Int))] [vI (-1000000001), vI (-1000000001)] (mk h τ)
        refine a_icmp_eq (tgt := 1668) dL_law_786 (by decide) (fun _ => ?_) (fun c => absurd c (by decide))
        exact kE h N J (IV_up (by omega) hI)
    · have c1_1_1 : a1 = 0 := c1_1_1
      have t9_4_1 : 0 ≤ a2 ∧ a2 < (N 4) := t9_4_1
      show Aj γ mL_law d mc ms Post 772 [(0, vK 0), (1, vA 0), (2, vA 123), (3, vI ((i : Nat) : Int))] [vI (N 2)] (mk (up2 (up2 (up2 h 1 9 a2) 0 3 ((h 0 3) + 1)) 1 0 ((h 0 3) + 1)) τ)
      refine a_aload_n (j := 2) dL_law_772 rfl rfl (Nat.le_of_ble_eq_true rfl) ?_
      refine a_aload_n (j := 0) dL_law_773 rfl rfl (Nat.le_of_ble_eq_true rfl) ?_
      refine a_iload_n (j := 3) dL_law_774 rfl rfl ?_
      refine a_iconst dL_law_775 ⟨by decide, by decide⟩ ?_
      refine a_iadd (z := (((i : Nat) : Int) + 1)) dL_law_776 (w_ok (by omega) (by omega)) ?_
      refine a_sld (i + 1) dL_law_777 (by omega) (by omega) ?_
      rw [ha1]
      refine a_aload_n (j := 0) dL_law_778 rfl rfl (Nat.le_of_ble_eq_true rfl) ?_
      refine a_iload_n (j := 3) dL_law_779 rfl rfl ?_
      refine a_iconst dL_law_780 ⟨by decide, by decide⟩ ?_
      refine a_iadd (z := (((i : Nat) : Int) + 2)) dL_law_781 (w_ok (by omega) (by omega)) ?_
      refine a_sld (i + 2) dL_law_782 (by omega) (by omega) ?_
      rw [ha2]
      refine b_callV (d' := d - 1) (mc' := 0) (ms' := 0) (mc1 := mc) (ms1 := ms) (st := [vI (N 2)]) (b := 123) [vI a1, vI a2] dL_law_783 mwX9_aim lkL_90 (by decide) rfl rc_X9 rfl (Nat.le_of_ble_eq_true rfl) (by omega) (by omega) (by omega) (c_X9_aim (v1 := (N 4)) (v2 := (N (Int.toNat (2 + a1)))) (by omega)  ((up2_ne (by omega)).trans ((up2_ne (by omega)).trans ((up2_ne (by omega)).trans (congrFun hN _)))) ((up2_ne (by omega)).trans ((up2_ne (by omega)).trans ((up2_ne (by omega)).trans (congrFun hN _)))) (show 0 ≤ (N 4) ∧ (N 4) ≤ 6 by omega) (fun t3_1_10 c10_2_10 c23_3_10 => ?_) (fun t3_1_10 c10_2_10 c23_3_10 t31_5_10 => ?_) (fun t3_1_10 c10_2_10 c23_3_10 t31_5_10 => ?_) (fun t3_1_10 c10_2_10 t15_7_10 c23_8_10 => ?_) (fun t3_1_10 c10_2_10 t15_7_10 => ?_) (fun t3_1_10 => ?_))
      · exfalso
        omega
      · exfalso
        omega
      · exfalso
        omega
      · exfalso
        omega
      · exfalso
        omega
      · have t3_1_10 : ¬ (0 ≤ a1 ∧ a1 ≤ 1) := t3_1_10
        show Aj γ mL_law d mc ms Post 786 [(0, vK 0), (1, vA 0), (2, vA 123), (3, vI ((i : Nat) : Int))] [vI (-1000000001), vI (N 2)] (mk (up2 (up2 (up2 h 1 9 a2) 0 3 ((h 0 3) + 1)) 1 0 ((h 0 3) + 1)) τ)
        refine a_icmp_eq (tgt := 1668) dL_law_786 (by decide) (fun c786_12 => ?_) (fun c786_12 => ?_)
        · exfalso
          omega
        · refine a_iconst dL_law_789 ⟨by decide, by decide⟩ ?_
          exact a_zret dL_law_790 rfl (by first | exact Or.inl rfl | exact Or.inr rfl | omega) (by exfalso; omega)
    · have c1_1_1 : a1 = 0 := c1_1_1
      have t9_4_1 : ¬ (0 ≤ a2 ∧ a2 < (N 4)) := t9_4_1
      have c36_5_1 : ¬ a1 = 1 := c36_5_1
      show Aj γ mL_law d mc ms Post 772 [(0, vK 0), (1, vA 0), (2, vA 123), (3, vI ((i : Nat) : Int))] [vI (-1000000001)] (mk h τ)
      refine a_aload_n (j := 2) dL_law_772 rfl rfl (Nat.le_of_ble_eq_true rfl) ?_
      refine a_aload_n (j := 0) dL_law_773 rfl rfl (Nat.le_of_ble_eq_true rfl) ?_
      refine a_iload_n (j := 3) dL_law_774 rfl rfl ?_
      refine a_iconst dL_law_775 ⟨by decide, by decide⟩ ?_
      refine a_iadd (z := (((i : Nat) : Int) + 1)) dL_law_776 (w_ok (by omega) (by omega)) ?_
      refine a_sld (i + 1) dL_law_777 (by omega) (by omega) ?_
      rw [ha1]
      refine a_aload_n (j := 0) dL_law_778 rfl rfl (Nat.le_of_ble_eq_true rfl) ?_
      refine a_iload_n (j := 3) dL_law_779 rfl rfl ?_
      refine a_iconst dL_law_780 ⟨by decide, by decide⟩ ?_
      refine a_iadd (z := (((i : Nat) : Int) + 2)) dL_law_781 (w_ok (by omega) (by omega)) ?_
      refine a_sld (i + 2) dL_law_782 (by omega) (by omega) ?_
      rw [ha2]
      refine b_callV (d' := d - 1) (mc' := 0) (ms' := 0) (mc1 := mc) (ms1 := ms) (st := [vI (-1000000001)]) (b := 123) [vI a1, vI a2] dL_law_783 mwX9_aim lkL_90 (by decide) rfl rc_X9 rfl (Nat.le_of_ble_eq_true rfl) (by omega) (by omega) (by omega) (c_X9_aim (v1 := (N 4)) (v2 := (N (Int.toNat (2 + a1)))) (by omega)  (congrFun hN _) (congrFun hN _) (show 0 ≤ (N 4) ∧ (N 4) ≤ 6 by omega) (fun t3_1_13 c10_2_13 c23_3_13 => ?_) (fun t3_1_13 c10_2_13 c23_3_13 t31_5_13 => ?_) (fun t3_1_13 c10_2_13 c23_3_13 t31_5_13 => ?_) (fun t3_1_13 c10_2_13 t15_7_13 c23_8_13 => ?_) (fun t3_1_13 c10_2_13 t15_7_13 => ?_) (fun t3_1_13 => ?_))
      · exfalso
        omega
      · exfalso
        omega
      · exfalso
        omega
      · exfalso
        omega
      · exfalso
        omega
      · have t3_1_13 : ¬ (0 ≤ a1 ∧ a1 ≤ 1) := t3_1_13
        show Aj γ mL_law d mc ms Post 786 [(0, vK 0), (1, vA 0), (2, vA 123), (3, vI ((i : Nat) : Int))] [vI (-1000000001), vI (-1000000001)] (mk h τ)
        refine a_icmp_eq (tgt := 1668) dL_law_786 (by decide) (fun _ => ?_) (fun c => absurd c (by decide))
        exact kE h N J (IV_up (by omega) hI)
set_option maxHeartbeats 16000000 in
theorem s_clear {γ : GT} {d mc ms n i : Nat} {N J : Nat → Int} {h : Nat → Nat → Int} {τ : List AC} {Post : Option AV → List AC → Prop} (hd : 30 ≤ d) (hn : n < 64) (hi : i + 5 < g_L γ) (hL : g_L γ ≤ 384) (hI : IVp n h τ N J) (kE : ∀ h' N' J', IVp (n + 1) h' τ N' J' → Aj γ mL_law d mc ms Post 1668 [(0, vK 0), (1, vA 0), (2, vA 123), (3, vI ((i : Nat) : Int))] [] (mk h' τ)) : Aj γ mL_law d mc ms Post 708 [(0, vK 0), (1, vA 0), (2, vA 123), (3, vI ((i : Nat) : Int))] [] (mk h τ) := by
  obtain ⟨hN, hJ, hX, hR, hk, hkK, hC, hRC, hst, hO⟩ := id hI
  have hsc := hX.1.1
  have hs1 := hsc.1
  have hs2 := hsc.2.1
  have hs3 := hsc.2.2.1
  have hs4 := hsc.2.2.2.1
  have hs5 := hsc.2.2.2.2
  have hs6 := hX.1.2.2.2.1
  have hx7 := hX.2.1
  have hx8 := hX.2.2.2.1
  refine a_aload_n (j := 1) dL_law_708 rfl rfl (Nat.le_of_ble_eq_true rfl) ?_
  refine b_callV (d' := d - 1) (mc' := 0) (ms' := 0) (mc1 := mc) (ms1 := ms) (st := []) (b := 0) [] dL_law_709 mwX8_clear lkL_73 (by decide) rfl rc_X8 rfl (Nat.le_of_ble_eq_true rfl) (by omega) (by omega) (by omega) (c_X8_clear (v1 := (N 7)) (by omega)  hR.1.2.2.2.1  (?_))
  show Aj γ mL_law d mc ms Post 712 [(0, vK 0), (1, vA 0), (2, vA 123), (3, vI ((i : Nat) : Int))] [vI (N 7)] (mk (up2 h 1 7 0) τ)
  refine a_aload_n (j := 2) dL_law_712 rfl rfl (Nat.le_of_ble_eq_true rfl) ?_
  refine b_callV (d' := d - 1) (mc' := 0) (ms' := 0) (mc1 := mc) (ms1 := ms) (st := [vI (N 7)]) (b := 123) [] dL_law_713 mwX9_clear lkL_77 (by decide) rfl rc_X9 rfl (Nat.le_of_ble_eq_true rfl) (by omega) (by omega) (by omega) (c_X9_clear (v1 := (N 7)) (by omega)  ((up2_ne (by omega)).trans (congrFun hN _))  (?_))
  show Aj γ mL_law d mc ms Post 716 [(0, vK 0), (1, vA 0), (2, vA 123), (3, vI ((i : Nat) : Int))] [vI (N 7), vI (N 7)] (mk (up2 (up2 h 1 7 0) 124 7 0) τ)
  refine a_icmp_eq (tgt := 1668) dL_law_716 (by decide) (fun c716_5 => ?_) (fun c716_5 => ?_)
  · generalize hHH : (up2 (up2 h 1 7 0) 124 7 0) = H
    have c1_ : H 1 1 = h 1 1 := by rw [← hHH]; exact ((up2_ne (by omega)).trans ((up2_ne (by omega)).trans rfl))
    have d4_ : H 124 4 = N 4 := by rw [← hHH]; exact ((up2_ne (by omega)).trans ((up2_ne (by omega)).trans (congrFun hN _)))
    have c3_ : H 1 3 = h 1 3 := by rw [← hHH]; exact ((up2_ne (by omega)).trans ((up2_ne (by omega)).trans rfl))
    have d5_ : H 124 5 = N 5 := by rw [← hHH]; exact ((up2_ne (by omega)).trans ((up2_ne (by omega)).trans (congrFun hN _)))
    have c5_ : H 1 5 = h 1 5 := by rw [← hHH]; exact ((up2_ne (by omega)).trans ((up2_ne (by omega)).trans rfl))
    have d6_ : H 124 6 = N 6 := by rw [← hHH]; exact ((up2_ne (by omega)).trans ((up2_ne (by omega)).trans (congrFun hN _)))
    have c7_ : H 1 7 = 0 := by rw [← hHH]; exact ((up2_ne (by omega)).trans (up2_hit (by omega) (by omega)))
    have d7_ : H 124 7 = 0 := by rw [← hHH]; exact (up2_hit (by omega) (by omega))
    have c9_ : H 1 9 = h 1 9 := by rw [← hHH]; exact ((up2_ne (by omega)).trans ((up2_ne (by omega)).trans rfl))
    have d2_ : H 124 2 = N 2 := by rw [← hHH]; exact ((up2_ne (by omega)).trans ((up2_ne (by omega)).trans (congrFun hN _)))
    have c10_ : H 1 10 = h 1 10 := by rw [← hHH]; exact ((up2_ne (by omega)).trans ((up2_ne (by omega)).trans rfl))
    have d3_ : H 124 3 = N 3 := by rw [← hHH]; exact ((up2_ne (by omega)).trans ((up2_ne (by omega)).trans (congrFun hN _)))
    have c11_ : H 1 11 = h 1 11 := by rw [← hHH]; exact ((up2_ne (by omega)).trans ((up2_ne (by omega)).trans rfl))
    have d1_ : H 124 1 = N 1 := by rw [← hHH]; exact ((up2_ne (by omega)).trans ((up2_ne (by omega)).trans (congrFun hN _)))
    have c12_ : H 1 12 = h 1 12 := by rw [← hHH]; exact ((up2_ne (by omega)).trans ((up2_ne (by omega)).trans rfl))
    have d8_ : H 124 8 = N 8 := by rw [← hHH]; exact ((up2_ne (by omega)).trans ((up2_ne (by omega)).trans (congrFun hN _)))
    have c15_ : H 1 15 = h 1 15 := by rw [← hHH]; exact ((up2_ne (by omega)).trans ((up2_ne (by omega)).trans rfl))
    have d0_ : H 124 0 = N 0 := by rw [← hHH]; exact ((up2_ne (by omega)).trans ((up2_ne (by omega)).trans (congrFun hN _)))
    have a5_ : ∀ c, 2 ≤ c → c < 32 → H c = h c := fun c q0_ q1_ => by rw [← hHH]; exact ((up2_row (by omega)).trans ((up2_row (by omega)).trans rfl))
    have nk_ : ∀ k : Nat, 9 ≤ k → H 124 k = N k := fun k q0_ => by rw [← hHH]; exact ((up2_ne (by omega)).trans ((up2_ne (by omega)).trans (congrFun hN _)))
    have hW := W_sc (h := h) (h' := H) hX hR a5_ ⟨c1_.trans ((hR.1.1).trans d4_.symm), c3_.trans ((hR.1.2.1).trans d5_.symm), c5_.trans ((hR.1.2.2.1).trans d6_.symm), c7_.trans d7_.symm, c9_.trans ((hR.1.2.2.2.2.1).trans d2_.symm), c10_.trans ((hR.1.2.2.2.2.2.1).trans d3_.symm), c11_.trans ((hR.1.2.2.2.2.2.2.1).trans d1_.symm), c12_.trans ((hR.1.2.2.2.2.2.2.2.1).trans d8_.symm), c15_.trans ((hR.1.2.2.2.2.2.2.2.2).trans d0_.symm)⟩ d4_ d5_ d6_ (by omega) (by omega) nk_ ⟨by omega, by omega, by omega, by omega, by omega⟩
    have hV : VE N (H 124) := fun k h1 h2 h3 h4 h5 => by
      rcases (show k = 1 ∨ k = 2 ∨ k = 3 ∨ k = 4 ∨ k = 5 ∨ k = 6 ∨ 9 ≤ k by omega) with rfl | rfl | rfl | rfl | rfl | rfl | q
      · exact d1_.symm
      · exact d2_.symm
      · exact d3_.symm
      · exact d4_.symm
      · exact d5_.symm
      · exact d6_.symm
      · exact (nk_ k q).symm
    have hW : NX (H 124) ∧ WR H τ 1 (H 124) ∧ VE N (H 124) := ⟨hW.1, hW.2, hV⟩
    have gF : ∀ c, ¬ inW c → H c = h c := fun c q0_ => by unfold inW at q0_; rw [← hHH]; exact ((up2_row (by omega)).trans ((up2_row (by omega)).trans rfl))
    have g0 : ∀ k : Nat, k ≠ 8 → H 0 k = h 0 k := fun k q0_ => by rw [← hHH]; exact ((up2_ne (by omega)).trans ((up2_ne (by omega)).trans rfl))
    have e10 : H 1 0 = h 1 0 := by rw [← hHH]; exact ((up2_ne (by omega)).trans ((up2_ne (by omega)).trans rfl))
    have g3 : H 123 = h 123 := by rw [← hHH]; exact ((up2_row (by omega)).trans ((up2_row (by omega)).trans rfl))
    exact kE H (H 124) J (IV_up (by omega) (IV_n hI gF g0 e10 g3 rfl hW.2.2 hW.1 hW.2.1))
  · refine a_iconst dL_law_719 ⟨by decide, by decide⟩ ?_
    exact a_zret dL_law_720 rfl (by first | exact Or.inl rfl | exact Or.inr rfl | omega) (by exfalso; omega)
set_option maxHeartbeats 16000000 in
theorem s_part {γ : GT} {d mc ms n i : Nat} {N J : Nat → Int} {h : Nat → Nat → Int} {τ : List AC} {Post : Option AV → List AC → Prop} (hd : 30 ≤ d) (hn : n < 64) (hi : i + 5 < g_L γ) (hL : g_L γ ≤ 384) (hI : IVp n h τ N J) (kE : ∀ h' N' J', IVp (n + 1) h' τ N' J' → Aj γ mL_law d mc ms Post 1668 [(0, vK 0), (1, vA 0), (2, vA 123), (3, vI ((i : Nat) : Int))] [] (mk h' τ)) : Aj γ mL_law d mc ms Post 1124 [(0, vK 0), (1, vA 0), (2, vA 123), (3, vI ((i : Nat) : Int))] [] (mk h τ) := by
  obtain ⟨hN, hJ, hX, hR, hk, hkK, hC, hRC, hst, hO⟩ := id hI
  have hsc := hX.1.1
  have hs1 := hsc.1
  have hs2 := hsc.2.1
  have hs3 := hsc.2.2.1
  have hs4 := hsc.2.2.2.1
  have hs5 := hsc.2.2.2.2
  have hs6 := hX.1.2.2.2.1
  have hx7 := hX.2.1
  have hx8 := hX.2.2.2.1
  refine a_aload_n (j := 1) dL_law_1124 rfl rfl (Nat.le_of_ble_eq_true rfl) ?_
  refine b_callV (d' := d - 1) (mc' := 0) (ms' := 0) (mc1 := mc) (ms1 := ms) (st := []) (b := 0) [] dL_law_1125 mwX8_part lkL_135 (by decide) rfl rc_X8 rfl (Nat.le_of_ble_eq_true rfl) (by omega) (by omega) (by omega) (c_X8_part (v1 := (N 8)) (by omega)  hR.1.2.2.2.2.2.2.2.1  (?_))
  show Aj γ mL_law d mc ms Post 1128 [(0, vK 0), (1, vA 0), (2, vA 123), (3, vI ((i : Nat) : Int))] [vI (N 8)] (mk (up2 h 1 12 0) τ)
  refine a_aload_n (j := 2) dL_law_1128 rfl rfl (Nat.le_of_ble_eq_true rfl) ?_
  refine b_callV (d' := d - 1) (mc' := 0) (ms' := 0) (mc1 := mc) (ms1 := ms) (st := [vI (N 8)]) (b := 123) [] dL_law_1129 mwX9_part lkL_138 (by decide) rfl rc_X9 rfl (Nat.le_of_ble_eq_true rfl) (by omega) (by omega) (by omega) (c_X9_part (v1 := (N 8)) (by omega)  ((up2_ne (by omega)).trans (congrFun hN _))  (?_))
  show Aj γ mL_law d mc ms Post 1132 [(0, vK 0), (1, vA 0), (2, vA 123), (3, vI ((i : Nat) : Int))] [vI (N 8), vI (N 8)] (mk (up2 (up2 h 1 12 0) 124 8 0) τ)
  refine a_icmp_eq (tgt := 1668) dL_law_1132 (by decide) (fun c1132_5 => ?_) (fun c1132_5 => ?_)
  · generalize hHH : (up2 (up2 h 1 12 0) 124 8 0) = H
    have c1_ : H 1 1 = h 1 1 := by rw [← hHH]; exact ((up2_ne (by omega)).trans ((up2_ne (by omega)).trans rfl))
    have d4_ : H 124 4 = N 4 := by rw [← hHH]; exact ((up2_ne (by omega)).trans ((up2_ne (by omega)).trans (congrFun hN _)))
    have c3_ : H 1 3 = h 1 3 := by rw [← hHH]; exact ((up2_ne (by omega)).trans ((up2_ne (by omega)).trans rfl))
    have d5_ : H 124 5 = N 5 := by rw [← hHH]; exact ((up2_ne (by omega)).trans ((up2_ne (by omega)).trans (congrFun hN _)))
    have c5_ : H 1 5 = h 1 5 := by rw [← hHH]; exact ((up2_ne (by omega)).trans ((up2_ne (by omega)).trans rfl))
    have d6_ : H 124 6 = N 6 := by rw [← hHH]; exact ((up2_ne (by omega)).trans ((up2_ne (by omega)).trans (congrFun hN _)))
    have c7_ : H 1 7 = h 1 7 := by rw [← hHH]; exact ((up2_ne (by omega)).trans ((up2_ne (by omega)).trans rfl))
    have d7_ : H 124 7 = N 7 := by rw [← hHH]; exact ((up2_ne (by omega)).trans ((up2_ne (by omega)).trans (congrFun hN _)))
    have c9_ : H 1 9 = h 1 9 := by rw [← hHH]; exact ((up2_ne (by omega)).trans ((up2_ne (by omega)).trans rfl))
    have d2_ : H 124 2 = N 2 := by rw [← hHH]; exact ((up2_ne (by omega)).trans ((up2_ne (by omega)).trans (congrFun hN _)))
    have c10_ : H 1 10 = h 1 10 := by rw [← hHH]; exact ((up2_ne (by omega)).trans ((up2_ne (by omega)).trans rfl))
    have d3_ : H 124 3 = N 3 := by rw [← hHH]; exact ((up2_ne (by omega)).trans ((up2_ne (by omega)).trans (congrFun hN _)))
    have c11_ : H 1 11 = h 1 11 := by rw [← hHH]; exact ((up2_ne (by omega)).trans ((up2_ne (by omega)).trans rfl))
    have d1_ : H 124 1 = N 1 := by rw [← hHH]; exact ((up2_ne (by omega)).trans ((up2_ne (by omega)).trans (congrFun hN _)))
    have c12_ : H 1 12 = 0 := by rw [← hHH]; exact ((up2_ne (by omega)).trans (up2_hit (by omega) (by omega)))
    have d8_ : H 124 8 = 0 := by rw [← hHH]; exact (up2_hit (by omega) (by omega))
    have c15_ : H 1 15 = h 1 15 := by rw [← hHH]; exact ((up2_ne (by omega)).trans ((up2_ne (by omega)).trans rfl))
    have d0_ : H 124 0 = N 0 := by rw [← hHH]; exact ((up2_ne (by omega)).trans ((up2_ne (by omega)).trans (congrFun hN _)))
    have a5_ : ∀ c, 2 ≤ c → c < 32 → H c = h c := fun c q0_ q1_ => by rw [← hHH]; exact ((up2_row (by omega)).trans ((up2_row (by omega)).trans rfl))
    have nk_ : ∀ k : Nat, 9 ≤ k → H 124 k = N k := fun k q0_ => by rw [← hHH]; exact ((up2_ne (by omega)).trans ((up2_ne (by omega)).trans (congrFun hN _)))
    have hW := W_sc (h := h) (h' := H) hX hR a5_ ⟨c1_.trans ((hR.1.1).trans d4_.symm), c3_.trans ((hR.1.2.1).trans d5_.symm), c5_.trans ((hR.1.2.2.1).trans d6_.symm), c7_.trans ((hR.1.2.2.2.1).trans d7_.symm), c9_.trans ((hR.1.2.2.2.2.1).trans d2_.symm), c10_.trans ((hR.1.2.2.2.2.2.1).trans d3_.symm), c11_.trans ((hR.1.2.2.2.2.2.2.1).trans d1_.symm), c12_.trans d8_.symm, c15_.trans ((hR.1.2.2.2.2.2.2.2.2).trans d0_.symm)⟩ d4_ d5_ d6_ (by omega) (by omega) nk_ ⟨by omega, by omega, by omega, by omega, by omega⟩
    have hV : VE N (H 124) := fun k h1 h2 h3 h4 h5 => by
      rcases (show k = 1 ∨ k = 2 ∨ k = 3 ∨ k = 4 ∨ k = 5 ∨ k = 6 ∨ 9 ≤ k by omega) with rfl | rfl | rfl | rfl | rfl | rfl | q
      · exact d1_.symm
      · exact d2_.symm
      · exact d3_.symm
      · exact d4_.symm
      · exact d5_.symm
      · exact d6_.symm
      · exact (nk_ k q).symm
    have hW : NX (H 124) ∧ WR H τ 1 (H 124) ∧ VE N (H 124) := ⟨hW.1, hW.2, hV⟩
    have gF : ∀ c, ¬ inW c → H c = h c := fun c q0_ => by unfold inW at q0_; rw [← hHH]; exact ((up2_row (by omega)).trans ((up2_row (by omega)).trans rfl))
    have g0 : ∀ k : Nat, k ≠ 8 → H 0 k = h 0 k := fun k q0_ => by rw [← hHH]; exact ((up2_ne (by omega)).trans ((up2_ne (by omega)).trans rfl))
    have e10 : H 1 0 = h 1 0 := by rw [← hHH]; exact ((up2_ne (by omega)).trans ((up2_ne (by omega)).trans rfl))
    have g3 : H 123 = h 123 := by rw [← hHH]; exact ((up2_row (by omega)).trans ((up2_row (by omega)).trans rfl))
    exact kE H (H 124) J (IV_up (by omega) (IV_n hI gF g0 e10 g3 rfl hW.2.2 hW.1 hW.2.1))
  · refine a_iconst dL_law_1135 ⟨by decide, by decide⟩ ?_
    exact a_zret dL_law_1136 rfl (by first | exact Or.inl rfl | exact Or.inr rfl | omega) (by exfalso; omega)
set_option maxHeartbeats 16000000 in
theorem s_seed {γ : GT} {d mc ms n i : Nat} {N J : Nat → Int} {h : Nat → Nat → Int} {τ : List AC} {Post : Option AV → List AC → Prop} (hd : 30 ≤ d) (hn : n < 64) (hi : i + 5 < g_L γ) (hL : g_L γ ≤ 384) (hI : IVp n h τ N J) (kE : ∀ h' N' J', IVp (n + 1) h' τ N' J' → Aj γ mL_law d mc ms Post 1668 [(0, vK 0), (1, vA 0), (2, vA 123), (3, vI ((i : Nat) : Int))] [] (mk h' τ)) : Aj γ mL_law d mc ms Post 1193 [(0, vK 0), (1, vA 0), (2, vA 123), (3, vI ((i : Nat) : Int))] [] (mk h τ) := by
  obtain ⟨hN, hJ, hX, hR, hk, hkK, hC, hRC, hst, hO⟩ := id hI
  have hsc := hX.1.1
  have hs1 := hsc.1
  have hs2 := hsc.2.1
  have hs3 := hsc.2.2.1
  have hs4 := hsc.2.2.2.1
  have hs5 := hsc.2.2.2.2
  have hs6 := hX.1.2.2.2.1
  have hx7 := hX.2.1
  have hx8 := hX.2.2.2.1
  obtain ⟨a1, ha1⟩ : ∃ z, (g_x γ (i + 1)).toInt = z := ⟨_, rfl⟩
  have ra1 : inI a1 := ha1 ▸ i32_rng _
  unfold inI at ra1
  refine a_aload_n (j := 1) dL_law_1193 rfl rfl (Nat.le_of_ble_eq_true rfl) ?_
  refine a_aload_n (j := 0) dL_law_1194 rfl rfl (Nat.le_of_ble_eq_true rfl) ?_
  refine a_iload_n (j := 3) dL_law_1195 rfl rfl ?_
  refine a_iconst dL_law_1196 ⟨by decide, by decide⟩ ?_
  refine a_iadd (z := (((i : Nat) : Int) + 1)) dL_law_1197 (w_ok (by omega) (by omega)) ?_
  refine a_sld (i + 1) dL_law_1198 (by omega) (by omega) ?_
  rw [ha1]
  refine b_callV (d' := d - 1) (mc' := 0) (ms' := 0) (mc1 := mc) (ms1 := ms) (st := []) (b := 0) [vI a1] dL_law_1199 mwX8_seed lkL_147 (by decide) rfl rc_X8 rfl (Nat.le_of_ble_eq_true rfl) (by omega) (by omega) (by omega) (c_X8_seed (v1 := (N 0)) (by omega)  hR.1.2.2.2.2.2.2.2.2  (?_))
  show Aj γ mL_law d mc ms Post 1202 [(0, vK 0), (1, vA 0), (2, vA 123), (3, vI ((i : Nat) : Int))] [vI (N 0)] (mk (up2 h 1 15 a1) τ)
  refine a_aload_n (j := 2) dL_law_1202 rfl rfl (Nat.le_of_ble_eq_true rfl) ?_
  refine a_aload_n (j := 0) dL_law_1203 rfl rfl (Nat.le_of_ble_eq_true rfl) ?_
  refine a_iload_n (j := 3) dL_law_1204 rfl rfl ?_
  refine a_iconst dL_law_1205 ⟨by decide, by decide⟩ ?_
  refine a_iadd (z := (((i : Nat) : Int) + 1)) dL_law_1206 (w_ok (by omega) (by omega)) ?_
  refine a_sld (i + 1) dL_law_1207 (by omega) (by omega) ?_
  rw [ha1]
  refine b_callV (d' := d - 1) (mc' := 0) (ms' := 0) (mc1 := mc) (ms1 := ms) (st := [vI (N 0)]) (b := 123) [vI a1] dL_law_1208 mwX9_seed lkL_150 (by decide) rfl rc_X9 rfl (Nat.le_of_ble_eq_true rfl) (by omega) (by omega) (by omega) (c_X9_seed (v1 := (N 0)) (by omega)  ((up2_ne (by omega)).trans (congrFun hN _))  (?_))
  show Aj γ mL_law d mc ms Post 1211 [(0, vK 0), (1, vA 0), (2, vA 123), (3, vI ((i : Nat) : Int))] [vI (N 0), vI (N 0)] (mk (up2 (up2 h 1 15 a1) 124 0 a1) τ)
  refine a_icmp_eq (tgt := 1668) dL_law_1211 (by decide) (fun c1211_5 => ?_) (fun c1211_5 => ?_)
  · generalize hHH : (up2 (up2 h 1 15 a1) 124 0 a1) = H
    have c1_ : H 1 1 = h 1 1 := by rw [← hHH]; exact ((up2_ne (by omega)).trans ((up2_ne (by omega)).trans rfl))
    have d4_ : H 124 4 = N 4 := by rw [← hHH]; exact ((up2_ne (by omega)).trans ((up2_ne (by omega)).trans (congrFun hN _)))
    have c3_ : H 1 3 = h 1 3 := by rw [← hHH]; exact ((up2_ne (by omega)).trans ((up2_ne (by omega)).trans rfl))
    have d5_ : H 124 5 = N 5 := by rw [← hHH]; exact ((up2_ne (by omega)).trans ((up2_ne (by omega)).trans (congrFun hN _)))
    have c5_ : H 1 5 = h 1 5 := by rw [← hHH]; exact ((up2_ne (by omega)).trans ((up2_ne (by omega)).trans rfl))
    have d6_ : H 124 6 = N 6 := by rw [← hHH]; exact ((up2_ne (by omega)).trans ((up2_ne (by omega)).trans (congrFun hN _)))
    have c7_ : H 1 7 = h 1 7 := by rw [← hHH]; exact ((up2_ne (by omega)).trans ((up2_ne (by omega)).trans rfl))
    have d7_ : H 124 7 = N 7 := by rw [← hHH]; exact ((up2_ne (by omega)).trans ((up2_ne (by omega)).trans (congrFun hN _)))
    have c9_ : H 1 9 = h 1 9 := by rw [← hHH]; exact ((up2_ne (by omega)).trans ((up2_ne (by omega)).trans rfl))
    have d2_ : H 124 2 = N 2 := by rw [← hHH]; exact ((up2_ne (by omega)).trans ((up2_ne (by omega)).trans (congrFun hN _)))
    have c10_ : H 1 10 = h 1 10 := by rw [← hHH]; exact ((up2_ne (by omega)).trans ((up2_ne (by omega)).trans rfl))
    have d3_ : H 124 3 = N 3 := by rw [← hHH]; exact ((up2_ne (by omega)).trans ((up2_ne (by omega)).trans (congrFun hN _)))
    have c11_ : H 1 11 = h 1 11 := by rw [← hHH]; exact ((up2_ne (by omega)).trans ((up2_ne (by omega)).trans rfl))
    have d1_ : H 124 1 = N 1 := by rw [← hHH]; exact ((up2_ne (by omega)).trans ((up2_ne (by omega)).trans (congrFun hN _)))
    have c12_ : H 1 12 = h 1 12 := by rw [← hHH]; exact ((up2_ne (by omega)).trans ((up2_ne (by omega)).trans rfl))
    have d8_ : H 124 8 = N 8 := by rw [← hHH]; exact ((up2_ne (by omega)).trans ((up2_ne (by omega)).trans (congrFun hN _)))
    have c15_ : H 1 15 = a1 := by rw [← hHH]; exact ((up2_ne (by omega)).trans (up2_hit (by omega) (by omega)))
    have d0_ : H 124 0 = a1 := by rw [← hHH]; exact (up2_hit (by omega) (by omega))
    have a5_ : ∀ c, 2 ≤ c → c < 32 → H c = h c := fun c q0_ q1_ => by rw [← hHH]; exact ((up2_row (by omega)).trans ((up2_row (by omega)).trans rfl))
    have nk_ : ∀ k : Nat, 9 ≤ k → H 124 k = N k := fun k q0_ => by rw [← hHH]; exact ((up2_ne (by omega)).trans ((up2_ne (by omega)).trans (congrFun hN _)))
    have hW := W_sc (h := h) (h' := H) hX hR a5_ ⟨c1_.trans ((hR.1.1).trans d4_.symm), c3_.trans ((hR.1.2.1).trans d5_.symm), c5_.trans ((hR.1.2.2.1).trans d6_.symm), c7_.trans ((hR.1.2.2.2.1).trans d7_.symm), c9_.trans ((hR.1.2.2.2.2.1).trans d2_.symm), c10_.trans ((hR.1.2.2.2.2.2.1).trans d3_.symm), c11_.trans ((hR.1.2.2.2.2.2.2.1).trans d1_.symm), c12_.trans ((hR.1.2.2.2.2.2.2.2.1).trans d8_.symm), c15_.trans d0_.symm⟩ d4_ d5_ d6_ (by omega) (by omega) nk_ ⟨by omega, by omega, by omega, by omega, by omega⟩
    have hV : VE N (H 124) := fun k h1 h2 h3 h4 h5 => by
      rcases (show k = 1 ∨ k = 2 ∨ k = 3 ∨ k = 4 ∨ k = 5 ∨ k = 6 ∨ 9 ≤ k by omega) with rfl | rfl | rfl | rfl | rfl | rfl | q
      · exact d1_.symm
      · exact d2_.symm
      · exact d3_.symm
      · exact d4_.symm
      · exact d5_.symm
      · exact d6_.symm
      · exact (nk_ k q).symm
    have hW : NX (H 124) ∧ WR H τ 1 (H 124) ∧ VE N (H 124) := ⟨hW.1, hW.2, hV⟩
    have gF : ∀ c, ¬ inW c → H c = h c := fun c q0_ => by unfold inW at q0_; rw [← hHH]; exact ((up2_row (by omega)).trans ((up2_row (by omega)).trans rfl))
    have g0 : ∀ k : Nat, k ≠ 8 → H 0 k = h 0 k := fun k q0_ => by rw [← hHH]; exact ((up2_ne (by omega)).trans ((up2_ne (by omega)).trans rfl))
    have e10 : H 1 0 = h 1 0 := by rw [← hHH]; exact ((up2_ne (by omega)).trans ((up2_ne (by omega)).trans rfl))
    have g3 : H 123 = h 123 := by rw [← hHH]; exact ((up2_row (by omega)).trans ((up2_row (by omega)).trans rfl))
    exact kE H (H 124) J (IV_up (by omega) (IV_n hI gF g0 e10 g3 rfl hW.2.2 hW.1 hW.2.1))
  · refine a_iconst dL_law_1214 ⟨by decide, by decide⟩ ?_
    exact a_zret dL_law_1215 rfl (by first | exact Or.inl rfl | exact Or.inr rfl | omega) (by exfalso; omega)
