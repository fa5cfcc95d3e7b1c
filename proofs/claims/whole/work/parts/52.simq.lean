set_option maxHeartbeats 16000000 in
theorem s_walk {γ : GT} {d mc ms n i : Nat} {N J : Nat → Int} {h : Nat → Nat → Int} {τ : List AC} {Post : Option AV → List AC → Prop} (hd : 30 ≤ d) (hn : n < 64) (hi : i + 5 < g_L γ) (hL : g_L γ ≤ 384) (hI : IVp n h τ N J) (kE : ∀ h' N' J', IVp (n + 1) h' τ N' J' → Aj γ mL_law d mc ms Post 1668 [(0, vK 0), (1, vA 0), (2, vA 123), (3, vI ((i : Nat) : Int))] [] (mk h' τ)) : Aj γ mL_law d mc ms Post 259 [(0, vK 0), (1, vA 0), (2, vA 123), (3, vI ((i : Nat) : Int))] [] (mk h τ) := by
  obtain ⟨hN, hJ, hX, hR, hk, hkK, hC, hRC, hst, hO⟩ := id hI
  have hsc := hX.1.1
  have hs1 := hsc.1
  have hs2 := hsc.2.1
  have hs3 := hsc.2.2.1
  have hs4 := hsc.2.2.2.1
  have hs5 := hsc.2.2.2.2
  have hs6 := hX.1.2.2.2.1
  have hx7 := hX.2.1
  have hx8 := hX.2.2.2.1
  obtain ⟨a1, ha1⟩ : ∃ z, (g_x γ (i + 1)).toInt = z := ⟨_, rfl⟩
  have ra1 : inI a1 := ha1 ▸ i32_rng _
  unfold inI at ra1
  refine a_aload_n (j := 1) dL_law_259 rfl rfl (Nat.le_of_ble_eq_true rfl) ?_
  refine a_aload_n (j := 0) dL_law_260 rfl rfl (Nat.le_of_ble_eq_true rfl) ?_
  refine a_iload_n (j := 3) dL_law_261 rfl rfl ?_
  refine a_iconst dL_law_262 ⟨by decide, by decide⟩ ?_
  refine a_iadd (z := (((i : Nat) : Int) + 1)) dL_law_263 (w_ok (by omega) (by omega)) ?_
  refine a_sld (i + 1) dL_law_264 (by omega) (by omega) ?_
  rw [ha1]
  refine b_callV (d' := d - 1) (mc' := 0) (ms' := 0) (mc1 := mc) (ms1 := ms) (st := []) (b := 0) [vI a1] dL_law_265 mwX8_walk lkL_18 (by decide) rfl rc_X8 rfl (Nat.le_of_ble_eq_true rfl) (by omega) (by omega) (by omega) (q_X8_walk (N := N) (J := J) (by omega) hR hX hC (fun h7 hF7 c7 => ?_))
  have I7 := IV_X hI hF7 c7
  obtain ⟨hN7, hJ7, _, hR7, hk7, hkK7, hC7, hRC7, hst7, hO7⟩ := id I7
  show Aj γ mL_law d mc ms Post 268 [(0, vK 0), (1, vA 0), (2, vA 123), (3, vI ((i : Nat) : Int))] [vI (vWalk N a1)] (mk h7 τ)
  refine a_aload_n (j := 2) dL_law_268 rfl rfl (Nat.le_of_ble_eq_true rfl) ?_
  refine a_aload_n (j := 0) dL_law_269 rfl rfl (Nat.le_of_ble_eq_true rfl) ?_
  refine a_iload_n (j := 3) dL_law_270 rfl rfl ?_
  refine a_iconst dL_law_271 ⟨by decide, by decide⟩ ?_
  refine a_iadd (z := (((i : Nat) : Int) + 1)) dL_law_272 (w_ok (by omega) (by omega)) ?_
  refine a_sld (i + 1) dL_law_273 (by omega) (by omega) ?_
  rw [ha1]
  refine b_callV (d' := d - 1) (mc' := 0) (ms' := 0) (mc1 := mc) (ms1 := ms) (st := [vI (vWalk N a1)]) (b := 123) [vI a1] dL_law_274 mwX9_walk lkL_21 (by decide) rfl rc_X9 rfl (Nat.le_of_ble_eq_true rfl) (by omega) (by omega) (by omega) (q_X9_walk (N := N) (by omega) hN7 hX hRC7 (fun h8 hF8 k8 c8 => ?_))
  have I8 := IV_R I7 hF8 k8 c8
  show Aj γ mL_law d mc ms Post 277 [(0, vK 0), (1, vA 0), (2, vA 123), (3, vI ((i : Nat) : Int))] [vI (vWalk N a1), vI (vWalk N a1)] (mk h8 τ)
  refine a_icmp_eq (tgt := 1668) dL_law_277 (by decide) (fun c277_1 => ?_) (fun c277_1 => ?_)
  · exact kE h8 N J (IV_up (by omega) I8)
  · refine a_iconst dL_law_280 ⟨by decide, by decide⟩ ?_
    exact a_zret dL_law_281 rfl (by first | exact Or.inl rfl | exact Or.inr rfl | omega) (by exfalso; omega)
set_option maxHeartbeats 16000000 in
theorem s_told {γ : GT} {d mc ms n i : Nat} {N J : Nat → Int} {h : Nat → Nat → Int} {τ : List AC} {Post : Option AV → List AC → Prop} (hd : 30 ≤ d) (hn : n < 64) (hi : i + 5 < g_L γ) (hL : g_L γ ≤ 384) (hI : IVp n h τ N J) (kE : ∀ h' N' J', IVp (n + 1) h' τ N' J' → Aj γ mL_law d mc ms Post 1668 [(0, vK 0), (1, vA 0), (2, vA 123), (3, vI ((i : Nat) : Int))] [] (mk h' τ)) : Aj γ mL_law d mc ms Post 335 [(0, vK 0), (1, vA 0), (2, vA 123), (3, vI ((i : Nat) : Int))] [] (mk h τ) := by
  obtain ⟨hN, hJ, hX, hR, hk, hkK, hC, hRC, hst, hO⟩ := id hI
  have hsc := hX.1.1
  have hs1 := hsc.1
  have hs2 := hsc.2.1
  have hs3 := hsc.2.2.1
  have hs4 := hsc.2.2.2.1
  have hs5 := hsc.2.2.2.2
  have hs6 := hX.1.2.2.2.1
  have hx7 := hX.2.1
  have hx8 := hX.2.2.2.1
  obtain ⟨a1, ha1⟩ : ∃ z, (g_x γ (i + 1)).toInt = z := ⟨_, rfl⟩
  have ra1 : inI a1 := ha1 ▸ i32_rng _
  unfold inI at ra1
  obtain ⟨a2, ha2⟩ : ∃ z, (g_x γ (i + 2)).toInt = z := ⟨_, rfl⟩
  have ra2 : inI a2 := ha2 ▸ i32_rng _
  unfold inI at ra2
  refine a_aload_n (j := 1) dL_law_335 rfl rfl (Nat.le_of_ble_eq_true rfl) ?_
  refine a_aload_n (j := 0) dL_law_336 rfl rfl (Nat.le_of_ble_eq_true rfl) ?_
  refine a_iload_n (j := 3) dL_law_337 rfl rfl ?_
  refine a_iconst dL_law_338 ⟨by decide, by decide⟩ ?_
  refine a_iadd (z := (((i : Nat) : Int) + 1)) dL_law_339 (w_ok (by omega) (by omega)) ?_
  refine a_sld (i + 1) dL_law_340 (by omega) (by omega) ?_
  rw [ha1]
  refine a_aload_n (j := 0) dL_law_341 rfl rfl (Nat.le_of_ble_eq_true rfl) ?_
  refine a_iload_n (j := 3) dL_law_342 rfl rfl ?_
  refine a_iconst dL_law_343 ⟨by decide, by decide⟩ ?_
  refine a_iadd (z := (((i : Nat) : Int) + 2)) dL_law_344 (w_ok (by omega) (by omega)) ?_
  refine a_sld (i + 2) dL_law_345 (by omega) (by omega) ?_
  rw [ha2]
  refine b_callV (d' := d - 1) (mc' := 0) (ms' := 0) (mc1 := mc) (ms1 := ms) (st := []) (b := 0) [vI a1, vI a2] dL_law_346 mwX8_told lkL_27 (by decide) rfl rc_X8 rfl (Nat.le_of_ble_eq_true rfl) (by omega) (by omega) (by omega) (q_X8_told (N := N) (J := J) (by omega) hR hX hC (fun h7 hF7 c7 => ?_))
  have I7 := IV_X hI hF7 c7
  obtain ⟨hN7, hJ7, _, hR7, hk7, hkK7, hC7, hRC7, hst7, hO7⟩ := id I7
  show Aj γ mL_law d mc ms Post 349 [(0, vK 0), (1, vA 0), (2, vA 123), (3, vI ((i : Nat) : Int))] [vI (vTold N a1 a2)] (mk h7 τ)
  refine a_aload_n (j := 2) dL_law_349 rfl rfl (Nat.le_of_ble_eq_true rfl) ?_
  refine a_aload_n (j := 0) dL_law_350 rfl rfl (Nat.le_of_ble_eq_true rfl) ?_
  refine a_iload_n (j := 3) dL_law_351 rfl rfl ?_
  refine a_iconst dL_law_352 ⟨by decide, by decide⟩ ?_
  refine a_iadd (z := (((i : Nat) : Int) + 1)) dL_law_353 (w_ok (by omega) (by omega)) ?_
  refine a_sld (i + 1) dL_law_354 (by omega) (by omega) ?_
  rw [ha1]
  refine a_aload_n (j := 0) dL_law_355 rfl rfl (Nat.le_of_ble_eq_true rfl) ?_
  refine a_iload_n (j := 3) dL_law_356 rfl rfl ?_
  refine a_iconst dL_law_357 ⟨by decide, by decide⟩ ?_
  refine a_iadd (z := (((i : Nat) : Int) + 2)) dL_law_358 (w_ok (by omega) (by omega)) ?_
  refine a_sld (i + 2) dL_law_359 (by omega) (by omega) ?_
  rw [ha2]
  refine b_callV (d' := d - 1) (mc' := 0) (ms' := 0) (mc1 := mc) (ms1 := ms) (st := [vI (vTold N a1 a2)]) (b := 123) [vI a1, vI a2] dL_law_360 mwX9_told lkL_31 (by decide) rfl rc_X9 rfl (Nat.le_of_ble_eq_true rfl) (by omega) (by omega) (by omega) (q_X9_told (N := N) (by omega) hN7 hX hRC7 (fun h8 hF8 k8 c8 => ?_))
  have I8 := IV_R I7 hF8 k8 c8
  show Aj γ mL_law d mc ms Post 363 [(0, vK 0), (1, vA 0), (2, vA 123), (3, vI ((i : Nat) : Int))] [vI (vTold N a1 a2), vI (vTold N a1 a2)] (mk h8 τ)
  refine a_icmp_eq (tgt := 1668) dL_law_363 (by decide) (fun c363_1 => ?_) (fun c363_1 => ?_)
  · exact kE h8 N J (IV_up (by omega) I8)
  · refine a_iconst dL_law_366 ⟨by decide, by decide⟩ ?_
    exact a_zret dL_law_367 rfl (by first | exact Or.inl rfl | exact Or.inr rfl | omega) (by exfalso; omega)
set_option maxHeartbeats 16000000 in
theorem s_makes {γ : GT} {d mc ms n i : Nat} {N J : Nat → Int} {h : Nat → Nat → Int} {τ : List AC} {Post : Option AV → List AC → Prop} (hd : 30 ≤ d) (hn : n < 64) (hi : i + 5 < g_L γ) (hL : g_L γ ≤ 384) (hI : IVp n h τ N J) (kE : ∀ h' N' J', IVp (n + 1) h' τ N' J' → Aj γ mL_law d mc ms Post 1668 [(0, vK 0), (1, vA 0), (2, vA 123), (3, vI ((i : Nat) : Int))] [] (mk h' τ)) : Aj γ mL_law d mc ms Post 586 [(0, vK 0), (1, vA 0), (2, vA 123), (3, vI ((i : Nat) : Int))] [] (mk h τ) := by
  obtain ⟨hN, hJ, hX, hR, hk, hkK, hC, hRC, hst, hO⟩ := id hI
  have hsc := hX.1.1
  have hs1 := hsc.1
  have hs2 := hsc.2.1
  have hs3 := hsc.2.2.1
  have hs4 := hsc.2.2.2.1
  have hs5 := hsc.2.2.2.2
  have hs6 := hX.1.2.2.2.1
  have hx7 := hX.2.1
  have hx8 := hX.2.2.2.1
  obtain ⟨a1, ha1⟩ : ∃ z, (g_x γ (i + 1)).toInt = z := ⟨_, rfl⟩
  have ra1 : inI a1 := ha1 ▸ i32_rng _
  unfold inI at ra1
  obtain ⟨a2, ha2⟩ : ∃ z, (g_x γ (i + 2)).toInt = z := ⟨_, rfl⟩
  have ra2 : inI a2 := ha2 ▸ i32_rng _
  unfold inI at ra2
  refine a_aload_n (j := 1) dL_law_586 rfl rfl (Nat.le_of_ble_eq_true rfl) ?_
  refine a_aload_n (j := 0) dL_law_587 rfl rfl (Nat.le_of_ble_eq_true rfl) ?_
  refine a_iload_n (j := 3) dL_law_588 rfl rfl ?_
  refine a_iconst dL_law_589 ⟨by decide, by decide⟩ ?_
  refine a_iadd (z := (((i : Nat) : Int) + 1)) dL_law_590 (w_ok (by omega) (by omega)) ?_
  refine a_sld (i + 1) dL_law_591 (by omega) (by omega) ?_
  rw [ha1]
  refine a_aload_n (j := 0) dL_law_592 rfl rfl (Nat.le_of_ble_eq_true rfl) ?_
  refine a_iload_n (j := 3) dL_law_593 rfl rfl ?_
  refine a_iconst dL_law_594 ⟨by decide, by decide⟩ ?_
  refine a_iadd (z := (((i : Nat) : Int) + 2)) dL_law_595 (w_ok (by omega) (by omega)) ?_
  refine a_sld (i + 2) dL_law_596 (by omega) (by omega) ?_
  rw [ha2]
  refine b_callV (d' := d - 1) (mc' := 0) (ms' := 0) (mc1 := mc) (ms1 := ms) (st := []) (b := 0) [vI a1, vI a2] dL_law_597 mwX8_makes lkL_57 (by decide) rfl rc_X8 rfl (Nat.le_of_ble_eq_true rfl) (by omega) (by omega) (by omega) (q_X8_makes (N := N) (J := J) (by omega) hR hX hC (fun h7 hF7 c7 => ?_))
  have I7 := IV_X hI hF7 c7
  obtain ⟨hN7, hJ7, _, hR7, hk7, hkK7, hC7, hRC7, hst7, hO7⟩ := id I7
  show Aj γ mL_law d mc ms Post 600 [(0, vK 0), (1, vA 0), (2, vA 123), (3, vI ((i : Nat) : Int))] [vI (vMakes N a1 a2)] (mk h7 τ)
  refine a_aload_n (j := 2) dL_law_600 rfl rfl (Nat.le_of_ble_eq_true rfl) ?_
  refine a_aload_n (j := 0) dL_law_601 rfl rfl (Nat.le_of_ble_eq_true rfl) ?_
  refine a_iload_n (j := 3) dL_law_602 rfl rfl ?_
  refine a_iconst dL_law_603 ⟨by decide, by decide⟩ ?_
  refine a_iadd (z := (((i : Nat) : Int) + 1)) dL_law_604 (w_ok (by omega) (by omega)) ?_
  refine a_sld (i + 1) dL_law_605 (by omega) (by omega) ?_
  rw [ha1]
  refine a_aload_n (j := 0) dL_law_606 rfl rfl (Nat.le_of_ble_eq_true rfl) ?_
  refine a_iload_n (j := 3) dL_law_607 rfl rfl ?_
  refine a_iconst dL_law_608 ⟨by decide, by decide⟩ ?_
  refine a_iadd (z := (((i : Nat) : Int) + 2)) dL_law_609 (w_ok (by omega) (by omega)) ?_
  refine a_sld (i + 2) dL_law_610 (by omega) (by omega) ?_
  rw [ha2]
  refine b_callV (d' := d - 1) (mc' := 0) (ms' := 0) (mc1 := mc) (ms1 := ms) (st := [vI (vMakes N a1 a2)]) (b := 123) [vI a1, vI a2] dL_law_611 mwX9_makes lkL_60 (by decide) rfl rc_X9 rfl (Nat.le_of_ble_eq_true rfl) (by omega) (by omega) (by omega) (q_X9_makes (N := N) (by omega) hN7 hX hRC7 (fun h8 hF8 k8 c8 => ?_))
  have I8 := IV_R I7 hF8 k8 c8
  show Aj γ mL_law d mc ms Post 614 [(0, vK 0), (1, vA 0), (2, vA 123), (3, vI ((i : Nat) : Int))] [vI (vMakes N a1 a2), vI (vMakes N a1 a2)] (mk h8 τ)
  refine a_icmp_eq (tgt := 1668) dL_law_614 (by decide) (fun c614_1 => ?_) (fun c614_1 => ?_)
  · exact kE h8 N J (IV_up (by omega) I8)
  · refine a_iconst dL_law_617 ⟨by decide, by decide⟩ ?_
    exact a_zret dL_law_618 rfl (by first | exact Or.inl rfl | exact Or.inr rfl | omega) (by exfalso; omega)
set_option maxHeartbeats 16000000 in
theorem s_never {γ : GT} {d mc ms n i : Nat} {N J : Nat → Int} {h : Nat → Nat → Int} {τ : List AC} {Post : Option AV → List AC → Prop} (hd : 30 ≤ d) (hn : n < 64) (hi : i + 5 < g_L γ) (hL : g_L γ ≤ 384) (hI : IVp n h τ N J) (kE : ∀ h' N' J', IVp (n + 1) h' τ N' J' → Aj γ mL_law d mc ms Post 1668 [(0, vK 0), (1, vA 0), (2, vA 123), (3, vI ((i : Nat) : Int))] [] (mk h' τ)) : Aj γ mL_law d mc ms Post 619 [(0, vK 0), (1, vA 0), (2, vA 123), (3, vI ((i : Nat) : Int))] [] (mk h τ) := by
  obtain ⟨hN, hJ, hX, hR, hk, hkK, hC, hRC, hst, hO⟩ := id hI
  have hsc := hX.1.1
  have hs1 := hsc.1
  have hs2 := hsc.2.1
  have hs3 := hsc.2.2.1
  have hs4 := hsc.2.2.2.1
  have hs5 := hsc.2.2.2.2
  have hs6 := hX.1.2.2.2.1
  have hx7 := hX.2.1
  have hx8 := hX.2.2.2.1
  obtain ⟨a1, ha1⟩ : ∃ z, (g_x γ (i + 1)).toInt = z := ⟨_, rfl⟩
  have ra1 : inI a1 := ha1 ▸ i32_rng _
  unfold inI at ra1
  refine a_aload_n (j := 1) dL_law_619 rfl rfl (Nat.le_of_ble_eq_true rfl) ?_
  refine a_aload_n (j := 0) dL_law_620 rfl rfl (Nat.le_of_ble_eq_true rfl) ?_
  refine a_iload_n (j := 3) dL_law_621 rfl rfl ?_
  refine a_iconst dL_law_622 ⟨by decide, by decide⟩ ?_
  refine a_iadd (z := (((i : Nat) : Int) + 1)) dL_law_623 (w_ok (by omega) (by omega)) ?_
  refine a_sld (i + 1) dL_law_624 (by omega) (by omega) ?_
  rw [ha1]
  refine b_callV (d' := d - 1) (mc' := 0) (ms' := 0) (mc1 := mc) (ms1 := ms) (st := []) (b := 0) [vI a1] dL_law_625 mwX8_never lkL_61 (by decide) rfl rc_X8 rfl (Nat.le_of_ble_eq_true rfl) (by omega) (by omega) (by omega) (q_X8_never (N := N) (J := J) (by omega) hR hX hC (fun h7 hF7 c7 => ?_))
  have I7 := IV_X hI hF7 c7
  obtain ⟨hN7, hJ7, _, hR7, hk7, hkK7, hC7, hRC7, hst7, hO7⟩ := id I7
  show Aj γ mL_law d mc ms Post 628 [(0, vK 0), (1, vA 0), (2, vA 123), (3, vI ((i : Nat) : Int))] [vI (vNever N a1)] (mk h7 τ)
  refine a_aload_n (j := 2) dL_law_628 rfl rfl (Nat.le_of_ble_eq_true rfl) ?_
  refine a_aload_n (j := 0) dL_law_629 rfl rfl (Nat.le_of_ble_eq_true rfl) ?_
  refine a_iload_n (j := 3) dL_law_630 rfl rfl ?_
  refine a_iconst dL_law_631 ⟨by decide, by decide⟩ ?_
  refine a_iadd (z := (((i : Nat) : Int) + 1)) dL_law_632 (w_ok (by omega) (by omega)) ?_
  refine a_sld (i + 1) dL_law_633 (by omega) (by omega) ?_
  rw [ha1]
  refine b_callV (d' := d - 1) (mc' := 0) (ms' := 0) (mc1 := mc) (ms1 := ms) (st := [vI (vNever N a1)]) (b := 123) [vI a1] dL_law_634 mwX9_never lkL_64 (by decide) rfl rc_X9 rfl (Nat.le_of_ble_eq_true rfl) (by omega) (by omega) (by omega) (q_X9_never (N := N) (by omega) hN7 hX hRC7 (fun h8 hF8 k8 c8 => ?_))
  have I8 := IV_R I7 hF8 k8 c8
  show Aj γ mL_law d mc ms Post 637 [(0, vK 0), (1, vA 0), (2, vA 123), (3, vI ((i : Nat) : Int))] [vI (vNever N a1), vI (vNever N a1)] (mk h8 τ)
  refine a_icmp_eq (tgt := 1668) dL_law_637 (by decide) (fun c637_1 => ?_) (fun c637_1 => ?_)
  · exact kE h8 N J (IV_up (by omega) I8)
  · refine a_iconst dL_law_640 ⟨by decide, by decide⟩ ?_
    exact a_zret dL_law_641 rfl (by first | exact Or.inl rfl | exact Or.inr rfl | omega) (by exfalso; omega)
set_option maxHeartbeats 16000000 in
theorem s_mends {γ : GT} {d mc ms n i : Nat} {N J : Nat → Int} {h : Nat → Nat → Int} {τ : List AC} {Post : Option AV → List AC → Prop} (hd : 30 ≤ d) (hn : n < 64) (hi : i + 5 < g_L γ) (hL : g_L γ ≤ 384) (hI : IVp n h τ N J) (kE : ∀ h' N' J', IVp (n + 1) h' τ N' J' → Aj γ mL_law d mc ms Post 1668 [(0, vK 0), (1, vA 0), (2, vA 123), (3, vI ((i : Nat) : Int))] [] (mk h' τ)) : Aj γ mL_law d mc ms Post 642 [(0, vK 0), (1, vA 0), (2, vA 123), (3, vI ((i : Nat) : Int))] [] (mk h τ) := by
  obtain ⟨hN, hJ, hX, hR, hk, hkK, hC, hRC, hst, hO⟩ := id hI
  have hsc := hX.1.1
  have hs1 := hsc.1
  have hs2 := hsc.2.1
  have hs3 := hsc.2.2.1
  have hs4 := hsc.2.2.2.1
  have hs5 := hsc.2.2.2.2
  have hs6 := hX.1.2.2.2.1
  have hx7 := hX.2.1
  have hx8 := hX.2.2.2.1
  obtain ⟨a1, ha1⟩ : ∃ z, (g_x γ (i + 1)).toInt = z := ⟨_, rfl⟩
  have ra1 : inI a1 := ha1 ▸ i32_rng _
  unfold inI at ra1
  obtain ⟨a2, ha2⟩ : ∃ z, (g_x γ (i + 2)).toInt = z := ⟨_, rfl⟩
  have ra2 : inI a2 := ha2 ▸ i32_rng _
  unfold inI at ra2
  obtain ⟨a3, ha3⟩ : ∃ z, (g_x γ (i + 3)).toInt = z := ⟨_, rfl⟩
  have ra3 : inI a3 := ha3 ▸ i32_rng _
  unfold inI at ra3
  refine a_aload_n (j := 1) dL_law_642 rfl rfl (Nat.le_of_ble_eq_true rfl) ?_
  refine a_aload_n (j := 0) dL_law_643 rfl rfl (Nat.le_of_ble_eq_true rfl) ?_
  refine a_iload_n (j := 3) dL_law_644 rfl rfl ?_
  refine a_iconst dL_law_645 ⟨by decide, by decide⟩ ?_
  refine a_iadd (z := (((i : Nat) : Int) + 1)) dL_law_646 (w_ok (by omega) (by omega)) ?_
  refine a_sld (i + 1) dL_law_647 (by omega) (by omega) ?_
  rw [ha1]
  refine a_aload_n (j := 0) dL_law_648 rfl rfl (Nat.le_of_ble_eq_true rfl) ?_
  refine a_iload_n (j := 3) dL_law_649 rfl rfl ?_
  refine a_iconst dL_law_650 ⟨by decide, by decide⟩ ?_
  refine a_iadd (z := (((i : Nat) : Int) + 2)) dL_law_651 (w_ok (by omega) (by omega)) ?_
  refine a_sld (i + 2) dL_law_652 (by omega) (by omega) ?_
  rw [ha2]
  refine a_aload_n (j := 0) dL_law_653 rfl rfl (Nat.le_of_ble_eq_true rfl) ?_
  refine a_iload_n (j := 3) dL_law_654 rfl rfl ?_
  refine a_iconst dL_law_655 ⟨by decide, by decide⟩ ?_
  refine a_iadd (z := (((i : Nat) : Int) + 3)) dL_law_656 (w_ok (by omega) (by omega)) ?_
  refine a_sld (i + 3) dL_law_657 (by omega) (by omega) ?_
  rw [ha3]
  refine b_callV (d' := d - 1) (mc' := 0) (ms' := 0) (mc1 := mc) (ms1 := ms) (st := []) (b := 0) [vI a1, vI a2, vI a3] dL_law_658 mwX8_mends lkL_65 (by decide) rfl rc_X8 rfl (Nat.le_of_ble_eq_true rfl) (by omega) (by omega) (by omega) (q_X8_mends (N := N) (J := J) (by omega) hR hX hC (fun h7 hF7 c7 => ?_))
  have I7 := IV_X hI hF7 c7
  obtain ⟨hN7, hJ7, _, hR7, hk7, hkK7, hC7, hRC7, hst7, hO7⟩ := id I7
  show Aj γ mL_law d mc ms Post 661 [(0, vK 0), (1, vA 0), (2, vA 123), (3, vI ((i : Nat) : Int))] [vI (vMends N a1 a2 a3)] (mk h7 τ)
  refine a_aload_n (j := 2) dL_law_661 rfl rfl (Nat.le_of_ble_eq_true rfl) ?_
  refine a_aload_n (j := 0) dL_law_662 rfl rfl (Nat.le_of_ble_eq_true rfl) ?_
  refine a_iload_n (j := 3) dL_law_663 rfl rfl ?_
  refine a_iconst dL_law_664 ⟨by decide, by decide⟩ ?_
  refine a_iadd (z := (((i : Nat) : Int) + 1)) dL_law_665 (w_ok (by omega) (by omega)) ?_
  refine a_sld (i + 1) dL_law_666 (by omega) (by omega) ?_
  rw [ha1]
  refine a_aload_n (j := 0) dL_law_667 rfl rfl (Nat.le_of_ble_eq_true rfl) ?_
  refine a_iload_n (j := 3) dL_law_668 rfl rfl ?_
  refine a_iconst dL_law_669 ⟨by decide, by decide⟩ ?_
  refine a_iadd (z := (((i : Nat) : Int) + 2)) dL_law_670 (w_ok (by omega) (by omega)) ?_
  refine a_sld (i + 2) dL_law_671 (by omega) (by omega) ?_
  rw [ha2]
  refine a_aload_n (j := 0) dL_law_672 rfl rfl (Nat.le_of_ble_eq_true rfl) ?_
  refine a_iload_n (j := 3) dL_law_673 rfl rfl ?_
  refine a_iconst dL_law_674 ⟨by decide, by decide⟩ ?_
  refine a_iadd (z := (((i : Nat) : Int) + 3)) dL_law_675 (w_ok (by omega) (by omega)) ?_
  refine a_sld (i + 3) dL_law_676 (by omega) (by omega) ?_
  rw [ha3]
  refine b_callV (d' := d - 1) (mc' := 0) (ms' := 0) (mc1 := mc) (ms1 := ms) (st := [vI (vMends N a1 a2 a3)]) (b := 123) [vI a1, vI a2, vI a3] dL_law_677 mwX9_mends lkL_68 (by decide) rfl rc_X9 rfl (Nat.le_of_ble_eq_true rfl) (by omega) (by omega) (by omega) (q_X9_mends (N := N) (by omega) hN7 hX hRC7 (fun h8 hF8 k8 c8 => ?_))
  have I8 := IV_R I7 hF8 k8 c8
  show Aj γ mL_law d mc ms Post 680 [(0, vK 0), (1, vA 0), (2, vA 123), (3, vI ((i : Nat) : Int))] [vI (vMends N a1 a2 a3), vI (vMends N a1 a2 a3)] (mk h8 τ)
  refine a_icmp_eq (tgt := 1668) dL_law_680 (by decide) (fun c680_1 => ?_) (fun c680_1 => ?_)
  · exact kE h8 N J (IV_up (by omega) I8)
  · refine a_iconst dL_law_683 ⟨by decide, by decide⟩ ?_
    exact a_zret dL_law_684 rfl (by first | exact Or.inl rfl | exact Or.inr rfl | omega) (by exfalso; omega)
set_option maxHeartbeats 16000000 in
theorem s_judge {γ : GT} {d mc ms n i : Nat} {N J : Nat → Int} {h : Nat → Nat → Int} {τ : List AC} {Post : Option AV → List AC → Prop} (hd : 30 ≤ d) (hn : n < 64) (hi : i + 5 < g_L γ) (hL : g_L γ ≤ 384) (hI : IVp n h τ N J) (kE : ∀ h' N' J', IVp (n + 1) h' τ N' J' → Aj γ mL_law d mc ms Post 1668 [(0, vK 0), (1, vA 0), (2, vA 123), (3, vI ((i : Nat) : Int))] [] (mk h' τ)) : Aj γ mL_law d mc ms Post 721 [(0, vK 0), (1, vA 0), (2, vA 123), (3, vI ((i : Nat) : Int))] [] (mk h τ) := by
  obtain ⟨hN, hJ, hX, hR, hk, hkK, hC, hRC, hst, hO⟩ := id hI
  have hsc := hX.1.1
  have hs1 := hsc.1
  have hs2 := hsc.2.1
  have hs3 := hsc.2.2.1
  have hs4 := hsc.2.2.2.1
  have hs5 := hsc.2.2.2.2
  have hs6 := hX.1.2.2.2.1
  have hx7 := hX.2.1
  have hx8 := hX.2.2.2.1
  refine a_aload_n (j := 1) dL_law_721 rfl rfl (Nat.le_of_ble_eq_true rfl) ?_
  refine b_callV (d' := d - 1) (mc' := 0) (ms' := 0) (mc1 := mc) (ms1 := ms) (st := []) (b := 0) [] dL_law_722 mwX8_judge lkL_78 (by decide) rfl rc_X8 rfl (Nat.le_of_ble_eq_true rfl) (by omega) (by omega) (by omega) (q_X8_judge (N := N) (J := J) (by omega) hR hX hC (fun h7 hF7 c7 => ?_))
  have I7 := IV_X hI hF7 c7
  obtain ⟨hN7, hJ7, _, hR7, hk7, hkK7, hC7, hRC7, hst7, hO7⟩ := id I7
  show Aj γ mL_law d mc ms Post 725 [(0, vK 0), (1, vA 0), (2, vA 123), (3, vI ((i : Nat) : Int))] [vI (vJudge N)] (mk h7 τ)
  refine a_aload_n (j := 2) dL_law_725 rfl rfl (Nat.le_of_ble_eq_true rfl) ?_
  refine b_callV (d' := d - 1) (mc' := 0) (ms' := 0) (mc1 := mc) (ms1 := ms) (st := [vI (vJudge N)]) (b := 123) [] dL_law_726 mwX9_judge lkL_81 (by decide) rfl rc_X9 rfl (Nat.le_of_ble_eq_true rfl) (by omega) (by omega) (by omega) (q_X9_judge (N := N) (by omega) hN7 hX hRC7 (fun h8 hF8 k8 c8 => ?_))
  have I8 := IV_R I7 hF8 k8 c8
  show Aj γ mL_law d mc ms Post 729 [(0, vK 0), (1, vA 0), (2, vA 123), (3, vI ((i : Nat) : Int))] [vI (vJudge N), vI (vJudge N)] (mk h8 τ)
  refine a_icmp_eq (tgt := 1668) dL_law_729 (by decide) (fun c729_1 => ?_) (fun c729_1 => ?_)
  · exact kE h8 N J (IV_up (by omega) I8)
  · refine a_iconst dL_law_732 ⟨by decide, by decide⟩ ?_
    exact a_zret dL_law_733 rfl (by first | exact Or.inl rfl | exact Or.inr rfl | omega) (by exfalso; omega)
set_option maxHeartbeats 16000000 in
theorem s_plan {γ : GT} {d mc ms n i : Nat} {N J : Nat → Int} {h : Nat → Nat → Int} {τ : List AC} {Post : Option AV → List AC → Prop} (hd : 30 ≤ d) (hn : n < 64) (hi : i + 5 < g_L γ) (hL : g_L γ ≤ 384) (hI : IVp n h τ N J) (kE : ∀ h' N' J', IVp (n + 1) h' τ N' J' → Aj γ mL_law d mc ms Post 1668 [(0, vK 0), (1, vA 0), (2, vA 123), (3, vI ((i : Nat) : Int))] [] (mk h' τ)) : Aj γ mL_law d mc ms Post 734 [(0, vK 0), (1, vA 0), (2, vA 123), (3, vI ((i : Nat) : Int))] [] (mk h τ) := by
  obtain ⟨hN, hJ, hX, hR, hk, hkK, hC, hRC, hst, hO⟩ := id hI
  have hsc := hX.1.1
  have hs1 := hsc.1
  have hs2 := hsc.2.1
  have hs3 := hsc.2.2.1
  have hs4 := hsc.2.2.2.1
  have hs5 := hsc.2.2.2.2
  have hs6 := hX.1.2.2.2.1
  have hx7 := hX.2.1
  have hx8 := hX.2.2.2.1
  obtain ⟨a1, ha1⟩ : ∃ z, (g_x γ (i + 1)).toInt = z := ⟨_, rfl⟩
  have ra1 : inI a1 := ha1 ▸ i32_rng _
  unfold inI at ra1
  refine a_aload_n (j := 1) dL_law_734 rfl rfl (Nat.le_of_ble_eq_true rfl) ?_
  refine a_aload_n (j := 0) dL_law_735 rfl rfl (Nat.le_of_ble_eq_true rfl) ?_
  refine a_iload_n (j := 3) dL_law_736 rfl rfl ?_
  refine a_iconst dL_law_737 ⟨by decide, by decide⟩ ?_
  refine a_iadd (z := (((i : Nat) : Int) + 1)) dL_law_738 (w_ok (by omega) (by omega)) ?_
  refine a_sld (i + 1) dL_law_739 (by omega) (by omega) ?_
  rw [ha1]
  refine b_callV (d' := d - 1) (mc' := 0) (ms' := 0) (mc1 := mc) (ms1 := ms) (st := []) (b := 0) [vI a1] dL_law_740 mwX8_plan lkL_82 (by decide) rfl rc_X8 rfl (Nat.le_of_ble_eq_true rfl) (by omega) (by omega) (by omega) (q_X8_plan (N := N) (J := J) (by omega) hR hX hC (fun h7 hF7 c7 => ?_))
  have I7 := IV_X hI hF7 c7
  obtain ⟨hN7, hJ7, _, hR7, hk7, hkK7, hC7, hRC7, hst7, hO7⟩ := id I7
  show Aj γ mL_law d mc ms Post 743 [(0, vK 0), (1, vA 0), (2, vA 123), (3, vI ((i : Nat) : Int))] [vL (vPlan N a1)] (mk h7 τ)
  refine a_aload_n (j := 2) dL_law_743 rfl rfl (Nat.le_of_ble_eq_true rfl) ?_
  refine a_aload_n (j := 0) dL_law_744 rfl rfl (Nat.le_of_ble_eq_true rfl) ?_
  refine a_iload_n (j := 3) dL_law_745 rfl rfl ?_
  refine a_iconst dL_law_746 ⟨by decide, by decide⟩ ?_
  refine a_iadd (z := (((i : Nat) : Int) + 1)) dL_law_747 (w_ok (by omega) (by omega)) ?_
  refine a_sld (i + 1) dL_law_748 (by omega) (by omega) ?_
  rw [ha1]
  refine b_callV (d' := d - 1) (mc' := 0) (ms' := 0) (mc1 := mc) (ms1 := ms) (st := [vL (vPlan N a1)]) (b := 123) [vI a1] dL_law_749 mwX9_plan lkL_86 (by decide) rfl rc_X9 rfl (Nat.le_of_ble_eq_true rfl) (by omega) (by omega) (by omega) (q_X9_plan (N := N) (by omega) hN7 hX hRC7 (fun h8 hF8 k8 c8 => ?_))
  have I8 := IV_R I7 hF8 k8 c8
  show Aj γ mL_law d mc ms Post 752 [(0, vK 0), (1, vA 0), (2, vA 123), (3, vI ((i : Nat) : Int))] [vL (vPlan N a1), vL (vPlan N a1)] (mk h8 τ)
  refine a_lcmp dL_law_752 ?_
  refine a_if_eq (tgt := 1668) dL_law_753 (by decide) (fun c753_1 => ?_) (fun c753_1 => ?_)
  · exact kE h8 N J (IV_up (by omega) I8)
  · refine a_iconst dL_law_756 ⟨by decide, by decide⟩ ?_
    exact a_zret dL_law_757 rfl (by first | exact Or.inl rfl | exact Or.inr rfl | omega) (by exfalso; have e := c753_1; rw [if_neg (by omega), if_pos rfl] at e; omega)
set_option maxHeartbeats 16000000 in
theorem s_mean {γ : GT} {d mc ms n i : Nat} {N J : Nat → Int} {h : Nat → Nat → Int} {τ : List AC} {Post : Option AV → List AC → Prop} (hd : 30 ≤ d) (hn : n < 64) (hi : i + 5 < g_L γ) (hL : g_L γ ≤ 384) (hI : IVp n h τ N J) (kE : ∀ h' N' J', IVp (n + 1) h' τ N' J' → Aj γ mL_law d mc ms Post 1668 [(0, vK 0), (1, vA 0), (2, vA 123), (3, vI ((i : Nat) : Int))] [] (mk h' τ)) : Aj γ mL_law d mc ms Post 791 [(0, vK 0), (1, vA 0), (2, vA 123), (3, vI ((i : Nat) : Int))] [] (mk h τ) := by
  obtain ⟨hN, hJ, hX, hR, hk, hkK, hC, hRC, hst, hO⟩ := id hI
  have hsc := hX.1.1
  have hs1 := hsc.1
  have hs2 := hsc.2.1
  have hs3 := hsc.2.2.1
  have hs4 := hsc.2.2.2.1
  have hs5 := hsc.2.2.2.2
  have hs6 := hX.1.2.2.2.1
  have hx7 := hX.2.1
  have hx8 := hX.2.2.2.1
  obtain ⟨a1, ha1⟩ : ∃ z, (g_x γ (i + 1)).toInt = z := ⟨_, rfl⟩
  have ra1 : inI a1 := ha1 ▸ i32_rng _
  unfold inI at ra1
  obtain ⟨a2, ha2⟩ : ∃ z, (g_x γ (i + 2)).toInt = z := ⟨_, rfl⟩
  have ra2 : inI a2 := ha2 ▸ i32_rng _
  unfold inI at ra2
  refine a_aload_n (j := 1) dL_law_791 rfl rfl (Nat.le_of_ble_eq_true rfl) ?_
  refine a_aload_n (j := 0) dL_law_792 rfl rfl (Nat.le_of_ble_eq_true rfl) ?_
  refine a_iload_n (j := 3) dL_law_793 rfl rfl ?_
  refine a_iconst dL_law_794 ⟨by decide, by decide⟩ ?_
  refine a_iadd (z := (((i : Nat) : Int) + 1)) dL_law_795 (w_ok (by omega) (by omega)) ?_
  refine a_sld (i + 1) dL_law_796 (by omega) (by omega) ?_
  rw [ha1]
  refine a_aload_n (j := 0) dL_law_797 rfl rfl (Nat.le_of_ble_eq_true rfl) ?_
  refine a_iload_n (j := 3) dL_law_798 rfl rfl ?_
  refine a_iconst dL_law_799 ⟨by decide, by decide⟩ ?_
  refine a_iadd (z := (((i : Nat) : Int) + 2)) dL_law_800 (w_ok (by omega) (by omega)) ?_
  refine a_sld (i + 2) dL_law_801 (by omega) (by omega) ?_
  rw [ha2]
  refine b_callV (d' := d - 1) (mc' := 0) (ms' := 0) (mc1 := mc) (ms1 := ms) (st := []) (b := 0) [vI a1, vI a2] dL_law_802 mwX8_mean lkL_91 (by decide) rfl rc_X8 rfl (Nat.le_of_ble_eq_true rfl) (by omega) (by omega) (by omega) (q_X8_mean (N := N) (J := J) (by omega) hR hX hC (fun h7 hF7 c7 => ?_))
  have I7 := IV_X hI hF7 c7
  obtain ⟨hN7, hJ7, _, hR7, hk7, hkK7, hC7, hRC7, hst7, hO7⟩ := id I7
  show Aj γ mL_law d mc ms Post 805 [(0, vK 0), (1, vA 0), (2, vA 123), (3, vI ((i : Nat) : Int))] [vI (vMean N a1 a2)] (mk h7 τ)
  refine a_aload_n (j := 2) dL_law_805 rfl rfl (Nat.le_of_ble_eq_true rfl) ?_
  refine a_aload_n (j := 0) dL_law_806 rfl rfl (Nat.le_of_ble_eq_true rfl) ?_
  refine a_iload_n (j := 3) dL_law_807 rfl rfl ?_
  refine a_iconst dL_law_808 ⟨by decide, by decide⟩ ?_
  refine a_iadd (z := (((i : Nat) : Int) + 1)) dL_law_809 (w_ok (by omega) (by omega)) ?_
  refine a_sld (i + 1) dL_law_810 (by omega) (by omega) ?_
  rw [ha1]
  refine a_aload_n (j := 0) dL_law_811 rfl rfl (Nat.le_of_ble_eq_true rfl) ?_
  refine a_iload_n (j := 3) dL_law_812 rfl rfl ?_
  refine a_iconst dL_law_813 ⟨by decide, by decide⟩ ?_
  refine a_iadd (z := (((i : Nat) : Int) + 2)) dL_law_814 (w_ok (by omega) (by omega)) ?_
  refine a_sld (i + 2) dL_law_815 (by omega) (by omega) ?_
  rw [ha2]
  refine b_callV (d' := d - 1) (mc' := 0) (ms' := 0) (mc1 := mc) (ms1 := ms) (st := [vI (vMean N a1 a2)]) (b := 123) [vI a1, vI a2] dL_law_816 mwX9_mean lkL_94 (by decide) rfl rc_X9 rfl (Nat.le_of_ble_eq_true rfl) (by omega) (by omega) (by omega) (q_X9_mean (N := N) (by omega) hN7 hX hRC7 (fun h8 hF8 k8 c8 => ?_))
  have I8 := IV_R I7 hF8 k8 c8
  show Aj γ mL_law d mc ms Post 819 [(0, vK 0), (1, vA 0), (2, vA 123), (3, vI ((i : Nat) : Int))] [vI (vMean N a1 a2), vI (vMean N a1 a2)] (mk h8 τ)
  refine a_icmp_eq (tgt := 1668) dL_law_819 (by decide) (fun c819_1 => ?_) (fun c819_1 => ?_)
  · exact kE h8 N J (IV_up (by omega) I8)
  · refine a_iconst dL_law_822 ⟨by decide, by decide⟩ ?_
    exact a_zret dL_law_823 rfl (by first | exact Or.inl rfl | exact Or.inr rfl | omega) (by exfalso; omega)
set_option maxHeartbeats 16000000 in
theorem s_taken {γ : GT} {d mc ms n i : Nat} {N J : Nat → Int} {h : Nat → Nat → Int} {τ : List AC} {Post : Option AV → List AC → Prop} (hd : 30 ≤ d) (hn : n < 64) (hi : i + 5 < g_L γ) (hL : g_L γ ≤ 384) (hI : IVp n h τ N J) (kE : ∀ h' N' J', IVp (n + 1) h' τ N' J' → Aj γ mL_law d mc ms Post 1668 [(0, vK 0), (1, vA 0), (2, vA 123), (3, vI ((i : Nat) : Int))] [] (mk h' τ)) : Aj γ mL_law d mc ms Post 824 [(0, vK 0), (1, vA 0), (2, vA 123), (3, vI ((i : Nat) : Int))] [] (mk h τ) := by
  obtain ⟨hN, hJ, hX, hR, hk, hkK, hC, hRC, hst, hO⟩ := id hI
  have hsc := hX.1.1
  have hs1 := hsc.1
  have hs2 := hsc.2.1
  have hs3 := hsc.2.2.1
  have hs4 := hsc.2.2.2.1
  have hs5 := hsc.2.2.2.2
  have hs6 := hX.1.2.2.2.1
  have hx7 := hX.2.1
  have hx8 := hX.2.2.2.1
  obtain ⟨a1, ha1⟩ : ∃ z, (g_x γ (i + 1)).toInt = z := ⟨_, rfl⟩
  have ra1 : inI a1 := ha1 ▸ i32_rng _
  unfold inI at ra1
  obtain ⟨a2, ha2⟩ : ∃ z, (g_x γ (i + 2)).toInt = z := ⟨_, rfl⟩
  have ra2 : inI a2 := ha2 ▸ i32_rng _
  unfold inI at ra2
  refine a_aload_n (j := 1) dL_law_824 rfl rfl (Nat.le_of_ble_eq_true rfl) ?_
  refine a_aload_n (j := 0) dL_law_825 rfl rfl (Nat.le_of_ble_eq_true rfl) ?_
  refine a_iload_n (j := 3) dL_law_826 rfl rfl ?_
  refine a_iconst dL_law_827 ⟨by decide, by decide⟩ ?_
  refine a_iadd (z := (((i : Nat) : Int) + 1)) dL_law_828 (w_ok (by omega) (by omega)) ?_
  refine a_sld (i + 1) dL_law_829 (by omega) (by omega) ?_
  rw [ha1]
  refine a_aload_n (j := 0) dL_law_830 rfl rfl (Nat.le_of_ble_eq_true rfl) ?_
  refine a_iload_n (j := 3) dL_law_831 rfl rfl ?_
  refine a_iconst dL_law_832 ⟨by decide, by decide⟩ ?_
  refine a_iadd (z := (((i : Nat) : Int) + 2)) dL_law_833 (w_ok (by omega) (by omega)) ?_
  refine a_sld (i + 2) dL_law_834 (by omega) (by omega) ?_
  rw [ha2]
  refine b_callV (d' := d - 1) (mc' := 0) (ms' := 0) (mc1 := mc) (ms1 := ms) (st := []) (b := 0) [vI a1, vI a2] dL_law_835 mwX8_taken lkL_95 (by decide) rfl rc_X8 rfl (Nat.le_of_ble_eq_true rfl) (by omega) (by omega) (by omega) (q_X8_taken (N := N) (J := J) (by omega) hR hX hC (fun h7 hF7 c7 => ?_))
  have I7 := IV_X hI hF7 c7
  obtain ⟨hN7, hJ7, _, hR7, hk7, hkK7, hC7, hRC7, hst7, hO7⟩ := id I7
  show Aj γ mL_law d mc ms Post 838 [(0, vK 0), (1, vA 0), (2, vA 123), (3, vI ((i : Nat) : Int))] [vI (vTaken N a1 a2)] (mk h7 τ)
  refine a_aload_n (j := 2) dL_law_838 rfl rfl (Nat.le_of_ble_eq_true rfl) ?_
  refine a_aload_n (j := 0) dL_law_839 rfl rfl (Nat.le_of_ble_eq_true rfl) ?_
  refine a_iload_n (j := 3) dL_law_840 rfl rfl ?_
  refine a_iconst dL_law_841 ⟨by decide, by decide⟩ ?_
  refine a_iadd (z := (((i : Nat) : Int) + 1)) dL_law_842 (w_ok (by omega) (by omega)) ?_
  refine a_sld (i + 1) dL_law_843 (by omega) (by omega) ?_
  rw [ha1]
  refine a_aload_n (j := 0) dL_law_844 rfl rfl (Nat.le_of_ble_eq_true rfl) ?_
  refine a_iload_n (j := 3) dL_law_845 rfl rfl ?_
  refine a_iconst dL_law_846 ⟨by decide, by decide⟩ ?_
  refine a_iadd (z := (((i : Nat) : Int) + 2)) dL_law_847 (w_ok (by omega) (by omega)) ?_
  refine a_sld (i + 2) dL_law_848 (by omega) (by omega) ?_
  rw [ha2]
  refine b_callV (d' := d - 1) (mc' := 0) (ms' := 0) (mc1 := mc) (ms1 := ms) (st := [vI (vTaken N a1 a2)]) (b := 123) [vI a1, vI a2] dL_law_849 mwX9_taken lkL_98 (by decide) rfl rc_X9 rfl (Nat.le_of_ble_eq_true rfl) (by omega) (by omega) (by omega) (q_X9_taken (N := N) (by omega) hN7 hX hRC7 (fun h8 hF8 k8 c8 => ?_))
  have I8 := IV_R I7 hF8 k8 c8
  show Aj γ mL_law d mc ms Post 852 [(0, vK 0), (1, vA 0), (2, vA 123), (3, vI ((i : Nat) : Int))] [vI (vTaken N a1 a2), vI (vTaken N a1 a2)] (mk h8 τ)
  refine a_icmp_eq (tgt := 1668) dL_law_852 (by decide) (fun c852_1 => ?_) (fun c852_1 => ?_)
  · exact kE h8 N J (IV_up (by omega) I8)
  · refine a_iconst dL_law_855 ⟨by decide, by decide⟩ ?_
    exact a_zret dL_law_856 rfl (by first | exact Or.inl rfl | exact Or.inr rfl | omega) (by exfalso; omega)
set_option maxHeartbeats 16000000 in
theorem s_sure {γ : GT} {d mc ms n i : Nat} {N J : Nat → Int} {h : Nat → Nat → Int} {τ : List AC} {Post : Option AV → List AC → Prop} (hd : 30 ≤ d) (hn : n < 64) (hi : i + 5 < g_L γ) (hL : g_L γ ≤ 384) (hI : IVp n h τ N J) (kE : ∀ h' N' J', IVp (n + 1) h' τ N' J' → Aj γ mL_law d mc ms Post 1668 [(0, vK 0), (1, vA 0), (2, vA 123), (3, vI ((i : Nat) : Int))] [] (mk h' τ)) : Aj γ mL_law d mc ms Post 857 [(0, vK 0), (1, vA 0), (2, vA 123), (3, vI ((i : Nat) : Int))] [] (mk h τ) := by
  obtain ⟨hN, hJ, hX, hR, hk, hkK, hC, hRC, hst, hO⟩ := id hI
  have hsc := hX.1.1
  have hs1 := hsc.1
  have hs2 := hsc.2.1
  have hs3 := hsc.2.2.1
  have hs4 := hsc.2.2.2.1
  have hs5 := hsc.2.2.2.2
  have hs6 := hX.1.2.2.2.1
  have hx7 := hX.2.1
  have hx8 := hX.2.2.2.1
  obtain ⟨a1, ha1⟩ : ∃ z, (g_x γ (i + 1)).toInt = z := ⟨_, rfl⟩
  have ra1 : inI a1 := ha1 ▸ i32_rng _
  unfold inI at ra1
  obtain ⟨a2, ha2⟩ : ∃ z, (g_x γ (i + 2)).toInt = z := ⟨_, rfl⟩
  have ra2 : inI a2 := ha2 ▸ i32_rng _
  unfold inI at ra2
  refine a_aload_n (j := 1) dL_law_857 rfl rfl (Nat.le_of_ble_eq_true rfl) ?_
  refine a_aload_n (j := 0) dL_law_858 rfl rfl (Nat.le_of_ble_eq_true rfl) ?_
  refine a_iload_n (j := 3) dL_law_859 rfl rfl ?_
  refine a_iconst dL_law_860 ⟨by decide, by decide⟩ ?_
  refine a_iadd (z := (((i : Nat) : Int) + 1)) dL_law_861 (w_ok (by omega) (by omega)) ?_
  refine a_sld (i + 1) dL_law_862 (by omega) (by omega) ?_
  rw [ha1]
  refine a_aload_n (j := 0) dL_law_863 rfl rfl (Nat.le_of_ble_eq_true rfl) ?_
  refine a_iload_n (j := 3) dL_law_864 rfl rfl ?_
  refine a_iconst dL_law_865 ⟨by decide, by decide⟩ ?_
  refine a_iadd (z := (((i : Nat) : Int) + 2)) dL_law_866 (w_ok (by omega) (by omega)) ?_
  refine a_sld (i + 2) dL_law_867 (by omega) (by omega) ?_
  rw [ha2]
  refine b_callV (d' := d - 1) (mc' := 0) (ms' := 0) (mc1 := mc) (ms1 := ms) (st := []) (b := 0) [vI a1, vI a2] dL_law_868 mwX8_sure lkL_99 (by decide) rfl rc_X8 rfl (Nat.le_of_ble_eq_true rfl) (by omega) (by omega) (by omega) (q_X8_sure (N := N) (J := J) (by omega) hR hX hC (fun h7 hF7 c7 => ?_))
  have I7 := IV_X hI hF7 c7
  obtain ⟨hN7, hJ7, _, hR7, hk7, hkK7, hC7, hRC7, hst7, hO7⟩ := id I7
  show Aj γ mL_law d mc ms Post 871 [(0, vK 0), (1, vA 0), (2, vA 123), (3, vI ((i : Nat) : Int))] [vI (vSure N a1 a2)] (mk h7 τ)
  refine a_aload_n (j := 2) dL_law_871 rfl rfl (Nat.le_of_ble_eq_true rfl) ?_
  refine a_aload_n (j := 0) dL_law_872 rfl rfl (Nat.le_of_ble_eq_true rfl) ?_
  refine a_iload_n (j := 3) dL_law_873 rfl rfl ?_
  refine a_iconst dL_law_874 ⟨by decide, by decide⟩ ?_
  refine a_iadd (z := (((i : Nat) : Int) + 1)) dL_law_875 (w_ok (by omega) (by omega)) ?_
  refine a_sld (i + 1) dL_law_876 (by omega) (by omega) ?_
  rw [ha1]
  refine a_aload_n (j := 0) dL_law_877 rfl rfl (Nat.le_of_ble_eq_true rfl) ?_
  refine a_iload_n (j := 3) dL_law_878 rfl rfl ?_
  refine a_iconst dL_law_879 ⟨by decide, by decide⟩ ?_
  refine a_iadd (z := (((i : Nat) : Int) + 2)) dL_law_880 (w_ok (by omega) (by omega)) ?_
  refine a_sld (i + 2) dL_law_881 (by omega) (by omega) ?_
  rw [ha2]
  refine b_callV (d' := d - 1) (mc' := 0) (ms' := 0) (mc1 := mc) (ms1 := ms) (st := [vI (vSure N a1 a2)]) (b := 123) [vI a1, vI a2] dL_law_882 mwX9_sure lkL_102 (by decide) rfl rc_X9 rfl (Nat.le_of_ble_eq_true rfl) (by omega) (by omega) (by omega) (q_X9_sure (N := N) (by omega) hN7 hX hRC7 (fun h8 hF8 k8 c8 => ?_))
  have I8 := IV_R I7 hF8 k8 c8
  show Aj γ mL_law d mc ms Post 885 [(0, vK 0), (1, vA 0), (2, vA 123), (3, vI ((i : Nat) : Int))] [vI (vSure N a1 a2), vI (vSure N a1 a2)] (mk h8 τ)
  refine a_icmp_eq (tgt := 1668) dL_law_885 (by decide) (fun c885_1 => ?_) (fun c885_1 => ?_)
  · exact kE h8 N J (IV_up (by omega) I8)
  · refine a_iconst dL_law_888 ⟨by decide, by decide⟩ ?_
    exact a_zret dL_law_889 rfl (by first | exact Or.inl rfl | exact Or.inr rfl | omega) (by exfalso; omega)
set_option maxHeartbeats 16000000 in
theorem s_cheap {γ : GT} {d mc ms n i : Nat} {N J : Nat → Int} {h : Nat → Nat → Int} {τ : List AC} {Post : Option AV → List AC → Prop} (hd : 30 ≤ d) (hn : n < 64) (hi : i + 5 < g_L γ) (hL : g_L γ ≤ 384) (hI : IVp n h τ N J) (kE : ∀ h' N' J', IVp (n + 1) h' τ N' J' → Aj γ mL_law d mc ms Post 1668 [(0, vK 0), (1, vA 0), (2, vA 123), (3, vI ((i : Nat) : Int))] [] (mk h' τ)) : Aj γ mL_law d mc ms Post 890 [(0, vK 0), (1, vA 0), (2, vA 123), (3, vI ((i : Nat) : Int))] [] (mk h τ) := by
  obtain ⟨hN, hJ, hX, hR, hk, hkK, hC, hRC, hst, hO⟩ := id hI
  have hsc := hX.1.1
  have hs1 := hsc.1
  have hs2 := hsc.2.1
  have hs3 := hsc.2.2.1
  have hs4 := hsc.2.2.2.1
  have hs5 := hsc.2.2.2.2
  have hs6 := hX.1.2.2.2.1
  have hx7 := hX.2.1
  have hx8 := hX.2.2.2.1
  obtain ⟨a1, ha1⟩ : ∃ z, (g_x γ (i + 1)).toInt = z := ⟨_, rfl⟩
  have ra1 : inI a1 := ha1 ▸ i32_rng _
  unfold inI at ra1
  obtain ⟨a2, ha2⟩ : ∃ z, (g_x γ (i + 2)).toInt = z := ⟨_, rfl⟩
  have ra2 : inI a2 := ha2 ▸ i32_rng _
  unfold inI at ra2
  refine a_aload_n (j := 1) dL_law_890 rfl rfl (Nat.le_of_ble_eq_true rfl) ?_
  refine a_aload_n (j := 0) dL_law_891 rfl rfl (Nat.le_of_ble_eq_true rfl) ?_
  refine a_iload_n (j := 3) dL_law_892 rfl rfl ?_
  refine a_iconst dL_law_893 ⟨by decide, by decide⟩ ?_
  refine a_iadd (z := (((i : Nat) : Int) + 1)) dL_law_894 (w_ok (by omega) (by omega)) ?_
  refine a_sld (i + 1) dL_law_895 (by omega) (by omega) ?_
  rw [ha1]
  refine a_aload_n (j := 0) dL_law_896 rfl rfl (Nat.le_of_ble_eq_true rfl) ?_
  refine a_iload_n (j := 3) dL_law_897 rfl rfl ?_
  refine a_iconst dL_law_898 ⟨by decide, by decide⟩ ?_
  refine a_iadd (z := (((i : Nat) : Int) + 2)) dL_law_899 (w_ok (by omega) (by omega)) ?_
  refine a_sld (i + 2) dL_law_900 (by omega) (by omega) ?_
  rw [ha2]
  refine b_callV (d' := d - 1) (mc' := 0) (ms' := 0) (mc1 := mc) (ms1 := ms) (st := []) (b := 0) [vI a1, vI a2] dL_law_901 mwX8_cheap lkL_103 (by decide) rfl rc_X8 rfl (Nat.le_of_ble_eq_true rfl) (by omega) (by omega) (by omega) (q_X8_cheap (N := N) (J := J) (by omega) hR hX hC (fun h7 hF7 c7 => ?_))
  have I7 := IV_X hI hF7 c7
  obtain ⟨hN7, hJ7, _, hR7, hk7, hkK7, hC7, hRC7, hst7, hO7⟩ := id I7
  show Aj γ mL_law d mc ms Post 904 [(0, vK 0), (1, vA 0), (2, vA 123), (3, vI ((i : Nat) : Int))] [vI (vCheap N a1 a2)] (mk h7 τ)
  refine a_aload_n (j := 2) dL_law_904 rfl rfl (Nat.le_of_ble_eq_true rfl) ?_
  refine a_aload_n (j := 0) dL_law_905 rfl rfl (Nat.le_of_ble_eq_true rfl) ?_
  refine a_iload_n (j := 3) dL_law_906 rfl rfl ?_
  refine a_iconst dL_law_907 ⟨by decide, by decide⟩ ?_
  refine a_iadd (z := (((i : Nat) : Int) + 1)) dL_law_908 (w_ok (by omega) (by omega)) ?_
  refine a_sld (i + 1) dL_law_909 (by omega) (by omega) ?_
  rw [ha1]
  refine a_aload_n (j := 0) dL_law_910 rfl rfl (Nat.le_of_ble_eq_true rfl) ?_
  refine a_iload_n (j := 3) dL_law_911 rfl rfl ?_
  refine a_iconst dL_law_912 ⟨by decide, by decide⟩ ?_
  refine a_iadd (z := (((i : Nat) : Int) + 2)) dL_law_913 (w_ok (by omega) (by omega)) ?_
  refine a_sld (i + 2) dL_law_914 (by omega) (by omega) ?_
  rw [ha2]
  refine b_callV (d' := d - 1) (mc' := 0) (ms' := 0) (mc1 := mc) (ms1 := ms) (st := [vI (vCheap N a1 a2)]) (b := 123) [vI a1, vI a2] dL_law_915 mwX9_cheap lkL_106 (by decide) rfl rc_X9 rfl (Nat.le_of_ble_eq_true rfl) (by omega) (by omega) (by omega) (q_X9_cheap (N := N) (by omega) hN7 hX hRC7 (fun h8 hF8 k8 c8 => ?_))
  have I8 := IV_R I7 hF8 k8 c8
  show Aj γ mL_law d mc ms Post 918 [(0, vK 0), (1, vA 0), (2, vA 123), (3, vI ((i : Nat) : Int))] [vI (vCheap N a1 a2), vI (vCheap N a1 a2)] (mk h8 τ)
  refine a_icmp_eq (tgt := 1668) dL_law_918 (by decide) (fun c918_1 => ?_) (fun c918_1 => ?_)
  · exact kE h8 N J (IV_up (by omega) I8)
  · refine a_iconst dL_law_921 ⟨by decide, by decide⟩ ?_
    exact a_zret dL_law_922 rfl (by first | exact Or.inl rfl | exact Or.inr rfl | omega) (by exfalso; omega)
set_option maxHeartbeats 16000000 in
theorem s_latest {γ : GT} {d mc ms n i : Nat} {N J : Nat → Int} {h : Nat → Nat → Int} {τ : List AC} {Post : Option AV → List AC → Prop} (hd : 30 ≤ d) (hn : n < 64) (hi : i + 5 < g_L γ) (hL : g_L γ ≤ 384) (hI : IVp n h τ N J) (kE : ∀ h' N' J', IVp (n + 1) h' τ N' J' → Aj γ mL_law d mc ms Post 1668 [(0, vK 0), (1, vA 0), (2, vA 123), (3, vI ((i : Nat) : Int))] [] (mk h' τ)) : Aj γ mL_law d mc ms Post 923 [(0, vK 0), (1, vA 0), (2, vA 123), (3, vI ((i : Nat) : Int))] [] (mk h τ) := by
  obtain ⟨hN, hJ, hX, hR, hk, hkK, hC, hRC, hst, hO⟩ := id hI
  have hsc := hX.1.1
  have hs1 := hsc.1
  have hs2 := hsc.2.1
  have hs3 := hsc.2.2.1
  have hs4 := hsc.2.2.2.1
  have hs5 := hsc.2.2.2.2
  have hs6 := hX.1.2.2.2.1
  have hx7 := hX.2.1
  have hx8 := hX.2.2.2.1
  obtain ⟨a1, ha1⟩ : ∃ z, (g_x γ (i + 1)).toInt = z := ⟨_, rfl⟩
  have ra1 : inI a1 := ha1 ▸ i32_rng _
  unfold inI at ra1
  obtain ⟨a2, ha2⟩ : ∃ z, (g_x γ (i + 2)).toInt = z := ⟨_, rfl⟩
  have ra2 : inI a2 := ha2 ▸ i32_rng _
  unfold inI at ra2
  refine a_aload_n (j := 1) dL_law_923 rfl rfl (Nat.le_of_ble_eq_true rfl) ?_
  refine a_aload_n (j := 0) dL_law_924 rfl rfl (Nat.le_of_ble_eq_true rfl) ?_
  refine a_iload_n (j := 3) dL_law_925 rfl rfl ?_
  refine a_iconst dL_law_926 ⟨by decide, by decide⟩ ?_
  refine a_iadd (z := (((i : Nat) : Int) + 1)) dL_law_927 (w_ok (by omega) (by omega)) ?_
  refine a_sld (i + 1) dL_law_928 (by omega) (by omega) ?_
  rw [ha1]
  refine a_aload_n (j := 0) dL_law_929 rfl rfl (Nat.le_of_ble_eq_true rfl) ?_
  refine a_iload_n (j := 3) dL_law_930 rfl rfl ?_
  refine a_iconst dL_law_931 ⟨by decide, by decide⟩ ?_
  refine a_iadd (z := (((i : Nat) : Int) + 2)) dL_law_932 (w_ok (by omega) (by omega)) ?_
  refine a_sld (i + 2) dL_law_933 (by omega) (by omega) ?_
  rw [ha2]
  refine b_callV (d' := d - 1) (mc' := 0) (ms' := 0) (mc1 := mc) (ms1 := ms) (st := []) (b := 0) [vI a1, vI a2] dL_law_934 mwX8_latest lkL_107 (by decide) rfl rc_X8 rfl (Nat.le_of_ble_eq_true rfl) (by omega) (by omega) (by omega) (q_X8_latest (N := N) (J := J) (by omega) hR hX hC (fun h7 hF7 c7 => ?_))
  have I7 := IV_X hI hF7 c7
  obtain ⟨hN7, hJ7, _, hR7, hk7, hkK7, hC7, hRC7, hst7, hO7⟩ := id I7
  show Aj γ mL_law d mc ms Post 937 [(0, vK 0), (1, vA 0), (2, vA 123), (3, vI ((i : Nat) : Int))] [vI (vLatest N a1 a2)] (mk h7 τ)
  refine a_aload_n (j := 2) dL_law_937 rfl rfl (Nat.le_of_ble_eq_true rfl) ?_
  refine a_aload_n (j := 0) dL_law_938 rfl rfl (Nat.le_of_ble_eq_true rfl) ?_
  refine a_iload_n (j := 3) dL_law_939 rfl rfl ?_
  refine a_iconst dL_law_940 ⟨by decide, by decide⟩ ?_
  refine a_iadd (z := (((i : Nat) : Int) + 1)) dL_law_941 (w_ok (by omega) (by omega)) ?_
  refine a_sld (i + 1) dL_law_942 (by omega) (by omega) ?_
  rw [ha1]
  refine a_aload_n (j := 0) dL_law_943 rfl rfl (Nat.le_of_ble_eq_true rfl) ?_
  refine a_iload_n (j := 3) dL_law_944 rfl rfl ?_
  refine a_iconst dL_law_945 ⟨by decide, by decide⟩ ?_
  refine a_iadd (z := (((i : Nat) : Int) + 2)) dL_law_946 (w_ok (by omega) (by omega)) ?_
  refine a_sld (i + 2) dL_law_947 (by omega) (by omega) ?_
  rw [ha2]
  refine b_callV (d' := d - 1) (mc' := 0) (ms' := 0) (mc1 := mc) (ms1 := ms) (st := [vI (vLatest N a1 a2)]) (b := 123) [vI a1, vI a2] dL_law_948 mwX9_latest lkL_110 (by decide) rfl rc_X9 rfl (Nat.le_of_ble_eq_true rfl) (by omega) (by omega) (by omega) (q_X9_latest (N := N) (by omega) hN7 hX hRC7 (fun h8 hF8 k8 c8 => ?_))
  have I8 := IV_R I7 hF8 k8 c8
  show Aj γ mL_law d mc ms Post 951 [(0, vK 0), (1, vA 0), (2, vA 123), (3, vI ((i : Nat) : Int))] [vI (vLatest N a1 a2), vI (vLatest N a1 a2)] (mk h8 τ)
  refine a_icmp_eq (tgt := 1668) dL_law_951 (by decide) (fun c951_1 => ?_) (fun c951_1 => ?_)
  · exact kE h8 N J (IV_up (by omega) I8)
  · refine a_iconst dL_law_954 ⟨by decide, by decide⟩ ?_
    exact a_zret dL_law_955 rfl (by first | exact Or.inl rfl | exact Or.inr rfl | omega) (by exfalso; omega)
set_option maxHeartbeats 16000000 in
theorem s_why {γ : GT} {d mc ms n i : Nat} {N J : Nat → Int} {h : Nat → Nat → Int} {τ : List AC} {Post : Option AV → List AC → Prop} (hd : 30 ≤ d) (hn : n < 64) (hi : i + 5 < g_L γ) (hL : g_L γ ≤ 384) (hI : IVp n h τ N J) (kE : ∀ h' N' J', IVp (n + 1) h' τ N' J' → Aj γ mL_law d mc ms Post 1668 [(0, vK 0), (1, vA 0), (2, vA 123), (3, vI ((i : Nat) : Int))] [] (mk h' τ)) : Aj γ mL_law d mc ms Post 1068 [(0, vK 0), (1, vA 0), (2, vA 123), (3, vI ((i : Nat) : Int))] [] (mk h τ) := by
  obtain ⟨hN, hJ, hX, hR, hk, hkK, hC, hRC, hst, hO⟩ := id hI
  have hsc := hX.1.1
  have hs1 := hsc.1
  have hs2 := hsc.2.1
  have hs3 := hsc.2.2.1
  have hs4 := hsc.2.2.2.1
  have hs5 := hsc.2.2.2.2
  have hs6 := hX.1.2.2.2.1
  have hx7 := hX.2.1
  have hx8 := hX.2.2.2.1
  obtain ⟨a1, ha1⟩ : ∃ z, (g_x γ (i + 1)).toInt = z := ⟨_, rfl⟩
  have ra1 : inI a1 := ha1 ▸ i32_rng _
  unfold inI at ra1
  refine a_aload_n (j := 1) dL_law_1068 rfl rfl (Nat.le_of_ble_eq_true rfl) ?_
  refine a_aload_n (j := 0) dL_law_1069 rfl rfl (Nat.le_of_ble_eq_true rfl) ?_
  refine a_iload_n (j := 3) dL_law_1070 rfl rfl ?_
  refine a_iconst dL_law_1071 ⟨by decide, by decide⟩ ?_
  refine a_iadd (z := (((i : Nat) : Int) + 1)) dL_law_1072 (w_ok (by omega) (by omega)) ?_
  refine a_sld (i + 1) dL_law_1073 (by omega) (by omega) ?_
  rw [ha1]
  refine b_callV (d' := d - 1) (mc' := 0) (ms' := 0) (mc1 := mc) (ms1 := ms) (st := []) (b := 0) [vI a1] dL_law_1074 mwX8_why lkL_127 (by decide) rfl rc_X8 rfl (Nat.le_of_ble_eq_true rfl) (by omega) (by omega) (by omega) (q_X8_why (N := N) (J := J) (by omega) hR hX hC (fun h7 hF7 c7 => ?_))
  have I7 := IV_X hI hF7 c7
  obtain ⟨hN7, hJ7, _, hR7, hk7, hkK7, hC7, hRC7, hst7, hO7⟩ := id I7
  show Aj γ mL_law d mc ms Post 1077 [(0, vK 0), (1, vA 0), (2, vA 123), (3, vI ((i : Nat) : Int))] [vI (vWhy N a1)] (mk h7 τ)
  refine a_aload_n (j := 2) dL_law_1077 rfl rfl (Nat.le_of_ble_eq_true rfl) ?_
  refine a_aload_n (j := 0) dL_law_1078 rfl rfl (Nat.le_of_ble_eq_true rfl) ?_
  refine a_iload_n (j := 3) dL_law_1079 rfl rfl ?_
  refine a_iconst dL_law_1080 ⟨by decide, by decide⟩ ?_
  refine a_iadd (z := (((i : Nat) : Int) + 1)) dL_law_1081 (w_ok (by omega) (by omega)) ?_
  refine a_sld (i + 1) dL_law_1082 (by omega) (by omega) ?_
  rw [ha1]
  refine b_callV (d' := d - 1) (mc' := 0) (ms' := 0) (mc1 := mc) (ms1 := ms) (st := [vI (vWhy N a1)]) (b := 123) [vI a1] dL_law_1083 mwX9_why lkL_130 (by decide) rfl rc_X9 rfl (Nat.le_of_ble_eq_true rfl) (by omega) (by omega) (by omega) (q_X9_why (N := N) (by omega) hN7 hX hRC7 (fun h8 hF8 k8 c8 => ?_))
  have I8 := IV_R I7 hF8 k8 c8
  show Aj γ mL_law d mc ms Post 1086 [(0, vK 0), (1, vA 0), (2, vA 123), (3, vI ((i : Nat) : Int))] [vI (vWhy N a1), vI (vWhy N a1)] (mk h8 τ)
  refine a_icmp_eq (tgt := 1668) dL_law_1086 (by decide) (fun c1086_1 => ?_) (fun c1086_1 => ?_)
  · exact kE h8 N J (IV_up (by omega) I8)
  · refine a_iconst dL_law_1089 ⟨by decide, by decide⟩ ?_
    exact a_zret dL_law_1090 rfl (by first | exact Or.inl rfl | exact Or.inr rfl | omega) (by exfalso; omega)
set_option maxHeartbeats 16000000 in
theorem s_gather {γ : GT} {d mc ms n i : Nat} {N J : Nat → Int} {h : Nat → Nat → Int} {τ : List AC} {Post : Option AV → List AC → Prop} (hd : 30 ≤ d) (hn : n < 64) (hi : i + 5 < g_L γ) (hL : g_L γ ≤ 384) (hI : IVp n h τ N J) (kE : ∀ h' N' J', IVp (n + 1) h' τ N' J' → Aj γ mL_law d mc ms Post 1668 [(0, vK 0), (1, vA 0), (2, vA 123), (3, vI ((i : Nat) : Int))] [] (mk h' τ)) : Aj γ mL_law d mc ms Post 1137 [(0, vK 0), (1, vA 0), (2, vA 123), (3, vI ((i : Nat) : Int))] [] (mk h τ) := by
  obtain ⟨hN, hJ, hX, hR, hk, hkK, hC, hRC, hst, hO⟩ := id hI
  have hsc := hX.1.1
  have hs1 := hsc.1
  have hs2 := hsc.2.1
  have hs3 := hsc.2.2.1
  have hs4 := hsc.2.2.2.1
  have hs5 := hsc.2.2.2.2
  have hs6 := hX.1.2.2.2.1
  have hx7 := hX.2.1
  have hx8 := hX.2.2.2.1
  obtain ⟨a1, ha1⟩ : ∃ z, (g_x γ (i + 1)).toInt = z := ⟨_, rfl⟩
  have ra1 : inI a1 := ha1 ▸ i32_rng _
  unfold inI at ra1
  refine a_aload_n (j := 1) dL_law_1137 rfl rfl (Nat.le_of_ble_eq_true rfl) ?_
  refine a_aload_n (j := 0) dL_law_1138 rfl rfl (Nat.le_of_ble_eq_true rfl) ?_
  refine a_iload_n (j := 3) dL_law_1139 rfl rfl ?_
  refine a_iconst dL_law_1140 ⟨by decide, by decide⟩ ?_
  refine a_iadd (z := (((i : Nat) : Int) + 1)) dL_law_1141 (w_ok (by omega) (by omega)) ?_
  refine a_sld (i + 1) dL_law_1142 (by omega) (by omega) ?_
  rw [ha1]
  refine b_callV (d' := d - 1) (mc' := 0) (ms' := 0) (mc1 := mc) (ms1 := ms) (st := []) (b := 0) [vI a1] dL_law_1143 mwX8_gather lkL_139 (by decide) rfl rc_X8 rfl (Nat.le_of_ble_eq_true rfl) (by omega) (by omega) (by omega) (q_X8_gather (N := N) (J := J) (by omega) hR hX hC (fun h7 hF7 c7 => ?_))
  have I7 := IV_X hI hF7 c7
  obtain ⟨hN7, hJ7, _, hR7, hk7, hkK7, hC7, hRC7, hst7, hO7⟩ := id I7
  show Aj γ mL_law d mc ms Post 1146 [(0, vK 0), (1, vA 0), (2, vA 123), (3, vI ((i : Nat) : Int))] [vI (vGather N a1)] (mk h7 τ)
  refine a_aload_n (j := 2) dL_law_1146 rfl rfl (Nat.le_of_ble_eq_true rfl) ?_
  refine a_aload_n (j := 0) dL_law_1147 rfl rfl (Nat.le_of_ble_eq_true rfl) ?_
  refine a_iload_n (j := 3) dL_law_1148 rfl rfl ?_
  refine a_iconst dL_law_1149 ⟨by decide, by decide⟩ ?_
  refine a_iadd (z := (((i : Nat) : Int) + 1)) dL_law_1150 (w_ok (by omega) (by omega)) ?_
  refine a_sld (i + 1) dL_law_1151 (by omega) (by omega) ?_
  rw [ha1]
  refine b_callV (d' := d - 1) (mc' := 0) (ms' := 0) (mc1 := mc) (ms1 := ms) (st := [vI (vGather N a1)]) (b := 123) [vI a1] dL_law_1152 mwX9_gather lkL_142 (by decide) rfl rc_X9 rfl (Nat.le_of_ble_eq_true rfl) (by omega) (by omega) (by omega) (q_X9_gather (N := N) (by omega) hN7 hX hRC7 (fun h8 hF8 k8 c8 => ?_))
  have I8 := IV_R I7 hF8 k8 c8
  show Aj γ mL_law d mc ms Post 1155 [(0, vK 0), (1, vA 0), (2, vA 123), (3, vI ((i : Nat) : Int))] [vI (vGather N a1), vI (vGather N a1)] (mk h8 τ)
  refine a_icmp_eq (tgt := 1668) dL_law_1155 (by decide) (fun c1155_1 => ?_) (fun c1155_1 => ?_)
  · exact kE h8 N J (IV_up (by omega) I8)
  · refine a_iconst dL_law_1158 ⟨by decide, by decide⟩ ?_
    exact a_zret dL_law_1159 rfl (by first | exact Or.inl rfl | exact Or.inr rfl | omega) (by exfalso; omega)
