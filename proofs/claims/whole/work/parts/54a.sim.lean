set_option maxHeartbeats 16000000 in
theorem s_train {γ : GT} {d mc ms n i : Nat} {N J : Nat → Int} {h : Nat → Nat → Int} {τ : List AC} {Post : Option AV → List AC → Prop} (hd : 30 ≤ d) (hn : n < 64) (hi : i + 5 < g_L γ) (hL : g_L γ ≤ 384) (hI : IVp n h τ N J) (kE : ∀ h' N' J', IVp (n + 1) h' τ N' J' → Aj γ mL_law d mc ms Post 1668 [(0, vK 0), (1, vA 0), (2, vA 123), (3, vI ((i : Nat) : Int))] [] (mk h' τ)) : Aj γ mL_law d mc ms Post 282 [(0, vK 0), (1, vA 0), (2, vA 123), (3, vI ((i : Nat) : Int))] [] (mk h τ) := by
  obtain ⟨hN, hJ, hX, hR, hk, hkK, hC, hRC, hst, hO⟩ := id hI
  have hsc := hX.1.1
  have hs1 := hsc.1
  have hs2 := hsc.2.1
  have hs3 := hsc.2.2.1
  have hs4 := hsc.2.2.2.1
  have hs5 := hsc.2.2.2.2
  have hs6 := hX.1.2.2.2.1
  have hx7 := hX.2.1
  have hx8 := hX.2.2.2.1
  obtain ⟨a1, ha1⟩ : ∃ z, (g_x γ (i + 1)).toInt = z := ⟨_, rfl⟩
  have ra1 : inI a1 := ha1 ▸ i32_rng _
  unfold inI at ra1
  obtain ⟨a2, ha2⟩ : ∃ z, (g_x γ (i + 2)).toInt = z := ⟨_, rfl⟩
  have ra2 : inI a2 := ha2 ▸ i32_rng _
  unfold inI at ra2
  obtain ⟨a3, ha3⟩ : ∃ z, (g_x γ (i + 3)).toInt = z := ⟨_, rfl⟩
  have ra3 : inI a3 := ha3 ▸ i32_rng _
  unfold inI at ra3
  obtain ⟨a4, ha4⟩ : ∃ z, (g_x γ (i + 4)).toInt = z := ⟨_, rfl⟩
  have ra4 : inI a4 := ha4 ▸ i32_rng _
  unfold inI at ra4
  obtain ⟨t0, ht0⟩ : ∃ z : Nat, N 5 = (z : Int) := ⟨Int.toNat (N 5), by omega⟩
  have htd := td10 a2
  refine a_aload_n (j := 1) dL_law_282 rfl rfl (Nat.le_of_ble_eq_true rfl) ?_
  refine a_aload_n (j := 0) dL_law_283 rfl rfl (Nat.le_of_ble_eq_true rfl) ?_
  refine a_iload_n (j := 3) dL_law_284 rfl rfl ?_
  refine a_iconst dL_law_285 ⟨by decide, by decide⟩ ?_
  refine a_iadd (z := (((i : Nat) : Int) + 1)) dL_law_286 (w_ok (by omega) (by omega)) ?_
  refine a_sld (i + 1) dL_law_287 (by omega) (by omega) ?_
  rw [ha1]
  refine a_aload_n (j := 0) dL_law_288 rfl rfl (Nat.le_of_ble_eq_true rfl) ?_
  refine a_iload_n (j := 3) dL_law_289 rfl rfl ?_
  refine a_iconst dL_law_290 ⟨by decide, by decide⟩ ?_
  refine a_iadd (z := (((i : Nat) : Int) + 2)) dL_law_291 (w_ok (by omega) (by omega)) ?_
  refine a_sld (i + 2) dL_law_292 (by omega) (by omega) ?_
  rw [ha2]
  refine a_aload_n (j := 0) dL_law_293 rfl rfl (Nat.le_of_ble_eq_true rfl) ?_
  refine a_iload_n (j := 3) dL_law_294 rfl rfl ?_
  refine a_iconst dL_law_295 ⟨by decide, by decide⟩ ?_
  refine a_iadd (z := (((i : Nat) : Int) + 3)) dL_law_296 (w_ok (by omega) (by omega)) ?_
  refine a_sld (i + 3) dL_law_297 (by omega) (by omega) ?_
  rw [ha3]
  refine a_aload_n (j := 0) dL_law_298 rfl rfl (Nat.le_of_ble_eq_true rfl) ?_
  refine a_iload_n (j := 3) dL_law_299 rfl rfl ?_
  refine a_iconst dL_law_300 ⟨by decide, by decide⟩ ?_
  refine a_iadd (z := (((i : Nat) : Int) + 4)) dL_law_301 (w_ok (by omega) (by omega)) ?_
  refine a_sld (i + 4) dL_law_302 (by omega) (by omega) ?_
  rw [ha4]
  refine b_callV (d' := d - 1) (mc' := 0) (ms' := 0) (mc1 := mc) (ms1 := ms) (st := []) (b := 0) [vI a1, vI a2, vI a3, vI a4] dL_law_303 mwX8_train lkL_22 (by decide) rfl rc_X8 rfl (Nat.le_of_ble_eq_true rfl) (by omega) (by omega) (by omega) (c_X8_train (v1 := (N 4)) (v2 := ((t0 : Nat) : Int)) (v3 := (h 0 3)) (f4 := (h ((8 + 2 * t0) + 1))) (by omega)  hR.1.1 (hR.1.2.1.trans ht0) rfl rfl (show 0 ≤ (N 4) ∧ (N 4) ≤ 6 by omega) (show 0 ≤ ((t0 : Nat) : Int) ∧ ((t0 : Nat) : Int) ≤ 12 by omega) (show 0 ≤ (h 0 3) ∧ (h 0 3) ≤ 1000 by omega) (fun t13_1_1 t25_2_1 t37_3_1 c47_4_1 => ?_) (fun t13_1_1 t25_2_1 t37_3_1 c47_4_1 t63_5_1 t71_6_1 c89_7_1 => ?_) (fun t13_1_1 t25_2_1 t37_3_1 c47_4_1 t63_5_1 t71_6_1 c89_7_1 => ?_) (fun t13_1_1 t25_2_1 t37_3_1 c47_4_1 t63_5_1 t71_6_1 => ?_) (fun t13_1_1 t25_2_1 t37_3_1 c47_4_1 t63_5_1 => ?_) (fun t13_1_1 t25_2_1 t37_3_1 => ?_) (fun t13_1_1 t25_2_1 => ?_) (fun t13_1_1 => ?_))
  · have t13_1_1 : 0 ≤ a1 ∧ a1 ≤ 5 := t13_1_1
    have t25_2_1 : 0 ≤ (Int.tdiv a2 10) ∧ (Int.tdiv a2 10) < (N 4) := t25_2_1
    have t37_3_1 : 0 ≤ (Int.tmod a2 10) ∧ (Int.tmod a2 10) < (N 4) := t37_3_1
    have c47_4_1 : (Int.tdiv a2 10) = (Int.tmod a2 10) := c47_4_1
    show Aj γ mL_law d mc ms Post 306 [(0, vK 0), (1, vA 0), (2, vA 123), (3, vI ((i : Nat) : Int))] [vI (-1000000001)] (mk h τ)
    refine a_aload_n (j := 2) dL_law_306 rfl rfl (Nat.le_of_ble_eq_true rfl) ?_
    refine a_aload_n (j := 0) dL_law_307 rfl rfl (Nat.le_of_ble_eq_true rfl) ?_
    refine a_iload_n (j := 3) dL_law_308 rfl rfl ?_
    refine a_iconst dL_law_309 ⟨by decide, by decide⟩ ?_
    refine a_iadd (z := (((i : Nat) : Int) + 1)) dL_law_310 (w_ok (by omega) (by omega)) ?_
    refine a_sld (i + 1) dL_law_311 (by omega) (by omega) ?_
    rw [ha1]
    refine a_aload_n (j := 0) dL_law_312 rfl rfl (Nat.le_of_ble_eq_true rfl) ?_
    refine a_iload_n (j := 3) dL_law_313 rfl rfl ?_
    refine a_iconst dL_law_314 ⟨by decide, by decide⟩ ?_
    refine a_iadd (z := (((i : Nat) : Int) + 2)) dL_law_315 (w_ok (by omega) (by omega)) ?_
    refine a_sld (i + 2) dL_law_316 (by omega) (by omega) ?_
    rw [ha2]
    refine a_aload_n (j := 0) dL_law_317 rfl rfl (Nat.le_of_ble_eq_true rfl) ?_
    refine a_iload_n (j := 3) dL_law_318 rfl rfl ?_
    refine a_iconst dL_law_319 ⟨by decide, by decide⟩ ?_
    refine a_iadd (z := (((i : Nat) : Int) + 3)) dL_law_320 (w_ok (by omega) (by omega)) ?_
    refine a_sld (i + 3) dL_law_321 (by omega) (by omega) ?_
    rw [ha3]
    refine a_aload_n (j := 0) dL_law_322 rfl rfl (Nat.le_of_ble_eq_true rfl) ?_
    refine a_iload_n (j := 3) dL_law_323 rfl rfl ?_
    refine a_iconst dL_law_324 ⟨by decide, by decide⟩ ?_
    refine a_iadd (z := (((i : Nat) : Int) + 4)) dL_law_325 (w_ok (by omega) (by omega)) ?_
    refine a_sld (i + 4) dL_law_326 (by omega) (by omega) ?_
    rw [ha4]
    refine b_callV (d' := d - 1) (mc' := 0) (ms' := 0) (mc1 := mc) (ms1 := ms) (st := [vI (-1000000001)]) (b := 123) [vI a1, vI a2, vI a3, vI a4] dL_law_327 mwX9_train lkL_26 (by decide) rfl rc_X9 rfl (Nat.le_of_ble_eq_true rfl) (by omega) (by omega) (by omega) (c_X9_train (v1 := (N 4)) (v2 := ((t0 : Nat) : Int)) (by omega)  (congrFun hN _) ((congrFun hN 5).trans ht0) (show 0 ≤ (N 4) ∧ (N 4) ≤ 6 by omega) (show 0 ≤ ((t0 : Nat) : Int) ∧ ((t0 : Nat) : Int) ≤ 12 by omega) (fun t3_1_3 c10_2_3 => ?_) (fun t3_1_3 c10_2_3 t18_3_3 t29_4_3 c43_5_3 => ?_) (fun t3_1_3 c10_2_3 t18_3_3 t29_4_3 c43_5_3 t63_6_3 t75_7_3 c92_9_3 => ?_) (fun t3_1_3 c10_2_3 t18_3_3 t29_4_3 c43_5_3 t63_6_3 t75_7_3 c92_9_3 => ?_) (fun t3_1_3 c10_2_3 t18_3_3 t29_4_3 c43_5_3 t63_6_3 t75_7_3 => ?_) (fun t3_1_3 c10_2_3 t18_3_3 t29_4_3 c43_5_3 t63_6_3 => ?_) (fun t3_1_3 c10_2_3 t18_3_3 t29_4_3 => ?_) (fun t3_1_3 c10_2_3 t18_3_3 => ?_) (fun t3_1_3 => ?_))
    · have t3_1_3 : 0 ≤ a1 ∧ a1 ≤ 5 := t3_1_3
      have c10_2_3 : a2 < 0 := c10_2_3
      show Aj γ mL_law d mc ms Post 330 [(0, vK 0), (1, vA 0), (2, vA 123), (3, vI ((i : Nat) : Int))] [vI (-1000000001), vI (-1000000001)] (mk h τ)
      refine a_icmp_eq (tgt := 1668) dL_law_330 (by decide) (fun _ => ?_) (fun c => absurd c (by decide))
      exact kE h N J (IV_up (by omega) hI)
    · have t3_1_3 : 0 ≤ a1 ∧ a1 ≤ 5 := t3_1_3
      have c10_2_3 : ¬ a2 < 0 := c10_2_3
      have t18_3_3 : 0 ≤ (a2 / 10) ∧ (a2 / 10) < (N 4) := t18_3_3
      have t29_4_3 : 0 ≤ (a2 % 10) ∧ (a2 % 10) < (N 4) := t29_4_3
      have c43_5_3 : (a2 / 10) = (a2 % 10) := c43_5_3
      show Aj γ mL_law d mc ms Post 330 [(0, vK 0), (1, vA 0), (2, vA 123), (3, vI ((i : Nat) : Int))] [vI (-1000000001), vI (-1000000001)] (mk h τ)
      refine a_icmp_eq (tgt := 1668) dL_law_330 (by decide) (fun _ => ?_) (fun c => absurd c (by decide))
      exact kE h N J (IV_up (by omega) hI)
    · have t3_1_3 : 0 ≤ a1 ∧ a1 ≤ 5 := t3_1_3
      have c10_2_3 : ¬ a2 < 0 := c10_2_3
      have t18_3_3 : 0 ≤ (a2 / 10) ∧ (a2 / 10) < (N 4) := t18_3_3
      have t29_4_3 : 0 ≤ (a2 % 10) ∧ (a2 % 10) < (N 4) := t29_4_3
      have c43_5_3 : ¬ (a2 / 10) = (a2 % 10) := c43_5_3
      have t63_6_3 : 0 ≤ a3 ∧ a3 ≤ 1439 := t63_6_3
      have t75_7_3 : 1 ≤ a4 ∧ a4 ≤ 600 := t75_7_3
      have c92_9_3 : ¬ ((t0 : Nat) : Int) = 12 := c92_9_3
      show Aj γ mL_law d mc ms Post 330 [(0, vK 0), (1, vA 0), (2, vA 123), (3, vI ((i : Nat) : Int))] [vI ((t0 : Nat) : Int), vI (-1000000001)] (mk (up2 (up2 (up2 (up2 (up2 (up2 (up2 (up2 (up2 (up2 (up2 (up2 (up2 (up2 (up2 (up2 (up2 (up2 (up2 (up2 h 124 (Int.toNat ((15 + (11 * ((t0 : Nat) : Int))) + 0)) 0) 124 (Int.toNat ((15 + (11 * ((t0 : Nat) : Int))) + 1)) 0) 124 (Int.toNat ((15 + (11 * ((t0 : Nat) : Int))) + 2)) 0) 124 (Int.toNat ((15 + (11 * ((t0 : Nat) : Int))) + 3)) 0) 124 (Int.toNat ((15 + (11 * ((t0 : Nat) : Int))) + 4)) 0) 124 (Int.toNat ((15 + (11 * ((t0 : Nat) : Int))) + 5)) 0) 124 (Int.toNat ((15 + (11 * ((t0 : Nat) : Int))) + 6)) 0) 124 (Int.toNat ((15 + (11 * ((t0 : Nat) : Int))) + 7)) 0) 124 (Int.toNat ((15 + (11 * ((t0 : Nat) : Int))) + 8)) 0) 124 (Int.toNat ((15 + (11 * ((t0 : Nat) : Int))) + 9)) 0) 124 (Int.toNat ((15 + (11 * ((t0 : Nat) : Int))) + 10)) 0) 124 5 (((t0 : Nat) : Int) + 1)) 124 (Int.toNat (15 + (11 * ((t0 : Nat) : Int)))) a1) 124 (Int.toNat ((15 + (11 * ((t0 : Nat) : Int))) + 1)) (a2 / 10)) 124 (Int.toNat ((15 + (11 * ((t0 : Nat) : Int))) + 2)) (a2 % 10)) 124 (Int.toNat ((15 + (11 * ((t0 : Nat) : Int))) + 3)) a3) 124 (Int.toNat ((15 + (11 * ((t0 : Nat) : Int))) + 4)) a4) 124 (Int.toNat ((15 + (11 * ((t0 : Nat) : Int))) + 6)) (-1)) 124 (Int.toNat ((15 + (11 * ((t0 : Nat) : Int))) + 7)) 100) 123 4 0) τ)
      refine a_icmp_eq (tgt := 1668) dL_law_330 (by decide) (fun c330_5 => ?_) (fun c330_5 => ?_)
      · exfalso
        omega
      · refine a_iconst dL_law_333 ⟨by decide, by decide⟩ ?_
        exact a_zret dL_law_334 rfl (by first | exact Or.inl rfl | exact Or.inr rfl | omega) (by exfalso; omega)
    · have t3_1_3 : 0 ≤ a1 ∧ a1 ≤ 5 := t3_1_3
      have c10_2_3 : ¬ a2 < 0 := c10_2_3
      have t18_3_3 : 0 ≤ (a2 / 10) ∧ (a2 / 10) < (N 4) := t18_3_3
      have t29_4_3 : 0 ≤ (a2 % 10) ∧ (a2 % 10) < (N 4) := t29_4_3
      have c43_5_3 : ¬ (a2 / 10) = (a2 % 10) := c43_5_3
      have t63_6_3 : 0 ≤ a3 ∧ a3 ≤ 1439 := t63_6_3
      have t75_7_3 : 1 ≤ a4 ∧ a4 ≤ 600 := t75_7_3
      have c92_9_3 : ((t0 : Nat) : Int) = 12 := c92_9_3
      show Aj γ mL_law d mc ms Post 330 [(0, vK 0), (1, vA 0), (2, vA 123), (3, vI ((i : Nat) : Int))] [vI (-1000000003), vI (-1000000001)] (mk h τ)
      refine a_icmp_eq (tgt := 1668) dL_law_330 (by decide) (fun c => absurd c (by decide)) (fun _ => ?_)
      refine a_iconst dL_law_333 ⟨by decide, by decide⟩ ?_
      exact a_zret dL_law_334 rfl (by first | exact Or.inl rfl | exact Or.inr rfl | omega) (by exfalso; omega)
    · have t3_1_3 : 0 ≤ a1 ∧ a1 ≤ 5 := t3_1_3
      have c10_2_3 : ¬ a2 < 0 := c10_2_3
      have t18_3_3 : 0 ≤ (a2 / 10) ∧ (a2 / 10) < (N 4) := t18_3_3
      have t29_4_3 : 0 ≤ (a2 % 10) ∧ (a2 % 10) < (N 4) := t29_4_3
      have c43_5_3 : ¬ (a2 / 10) = (a2 % 10) := c43_5_3
      have t63_6_3 : 0 ≤ a3 ∧ a3 ≤ 1439 := t63_6_3
      have t75_7_3 : ¬ (1 ≤ a4 ∧ a4 ≤ 600) := t75_7_3
      show Aj γ mL_law d mc ms Post 330 [(0, vK 0), (1, vA 0), (2, vA 123), (3, vI ((i : Nat) : Int))] [vI (-1000000001), vI (-1000000001)] (mk h τ)
      refine a_icmp_eq (tgt := 1668) dL_law_330 (by decide) (fun _ => ?_) (fun c => absurd c (by decide))
      exact kE h N J (IV_up (by omega) hI)
    · have t3_1_3 : 0 ≤ a1 ∧ a1 ≤ 5 := t3_1_3
      have c10_2_3 : ¬ a2 < 0 := c10_2_3
      have t18_3_3 : 0 ≤ (a2 / 10) ∧ (a2 / 10) < (N 4) := t18_3_3
      have t29_4_3 : 0 ≤ (a2 % 10) ∧ (a2 % 10) < (N 4) := t29_4_3
      have c43_5_3 : ¬ (a2 / 10) = (a2 % 10) := c43_5_3
      have t63_6_3 : ¬ (0 ≤ a3 ∧ a3 ≤ 1439) := t63_6_3
      show Aj γ mL_law d mc ms Post 330 [(0, vK 0), (1, vA 0), (2, vA 123), (3, vI ((i : Nat) : Int))] [vI (-1000000001), vI (-1000000001)] (mk h τ)
      refine a_icmp_eq (tgt := 1668) dL_law_330 (by decide) (fun _ => ?_) (fun c => absurd c (by decide))
      exact kE h N J (IV_up (by omega) hI)
    · have t3_1_3 : 0 ≤ a1 ∧ a1 ≤ 5 := t3_1_3
      have c10_2_3 : ¬ a2 < 0 := c10_2_3
      have t18_3_3 : 0 ≤ (a2 / 10) ∧ (a2 / 10) < (N 4) := t18_3_3
      have t29_4_3 : ¬ (0 ≤ (a2 % 10) ∧ (a2 % 10) < (N 4)) := t29_4_3
      show Aj γ mL_law d mc ms Post 330 [(0, vK 0), (1, vA 0), (2, vA 123), (3, vI ((i : Nat) : Int))] [vI (-1000000001), vI (-1000000001)] (mk h τ)
      refine a_icmp_eq (tgt := 1668) dL_law_330 (by decide) (fun _ => ?_) (fun c => absurd c (by decide))
      exact kE h N J (IV_up (by omega) hI)
    · have t3_1_3 : 0 ≤ a1 ∧ a1 ≤ 5 := t3_1_3
      have c10_2_3 : ¬ a2 < 0 := c10_2_3
      have t18_3_3 : ¬ (0 ≤ (a2 / 10) ∧ (a2 / 10) < (N 4)) := t18_3_3
      show Aj γ mL_law d mc ms Post 330 [(0, vK 0), (1, vA 0), (2, vA 123), (3, vI ((i : Nat) : Int))] [vI (-1000000001), vI (-1000000001)] (mk h τ)
      refine a_icmp_eq (tgt := 1668) dL_law_330 (by decide) (fun _ => ?_) (fun c => absurd c (by decide))
      exact kE h N J (IV_up (by omega) hI)
    · exfalso
      omega
  · have t13_1_1 : 0 ≤ a1 ∧ a1 ≤ 5 := t13_1_1
    have t25_2_1 : 0 ≤ (Int.tdiv a2 10) ∧ (Int.tdiv a2 10) < (N 4) := t25_2_1
    have t37_3_1 : 0 ≤ (Int.tmod a2 10) ∧ (Int.tmod a2 10) < (N 4) := t37_3_1
    have c47_4_1 : ¬ (Int.tdiv a2 10) = (Int.tmod a2 10) := c47_4_1
    have t63_5_1 : 0 ≤ a3 ∧ a3 ≤ 1439 := t63_5_1
    have t71_6_1 : 1 ≤ a4 ∧ a4 ≤ 600 := t71_6_1
    have c89_7_1 : ((t0 : Nat) : Int) < 12 := c89_7_1
    show Aj γ mL_law d mc ms Post 306 [(0, vK 0), (1, vA 0), (2, vA 123), (3, vI ((i : Nat) : Int))] [vI ((((t0 : Nat) : Int) + 1) - 1)] (mk (up2 (up2 (up2 (up2 (up2 (up2 (upR (up2 (up2 (up2 (up2 (up2 h (8 + 2 * t0) 0 a1) (8 + 2 * t0) 1 (Int.tdiv a2 10)) (8 + 2 * t0) 2 (Int.tmod a2 10)) (8 + 2 * t0) 5 0) (8 + 2 * t0) 6 (-1000000005)) ((8 + 2 * t0) + 1) (fillR 0 4 (h ((8 + 2 * t0) + 1)))) ((8 + 2 * t0) + 1) 0 100) (8 + 2 * t0) 3 a3) (8 + 2 * t0) 4 a4) 1 3 (((t0 : Nat) : Int) + 1)) 0 3 ((h 0 3) + 1)) 1 0 ((h 0 3) + 1)) τ)
    refine a_aload_n (j := 2) dL_law_306 rfl rfl (Nat.le_of_ble_eq_true rfl) ?_
    refine a_aload_n (j := 0) dL_law_307 rfl rfl (Nat.le_of_ble_eq_true rfl) ?_
    refine a_iload_n (j := 3) dL_law_308 rfl rfl ?_
    refine a_iconst dL_law_309 ⟨by decide, by decide⟩ ?_
    refine a_iadd (z := (((i : Nat) : Int) + 1)) dL_law_310 (w_ok (by omega) (by omega)) ?_
    refine a_sld (i + 1) dL_law_311 (by omega) (by omega) ?_
    rw [ha1]
    refine a_aload_n (j := 0) dL_law_312 rfl rfl (Nat.le_of_ble_eq_true rfl) ?_
    refine a_iload_n (j := 3) dL_law_313 rfl rfl ?_
    refine a_iconst dL_law_314 ⟨by decide, by decide⟩ ?_
    refine a_iadd (z := (((i : Nat) : Int) + 2)) dL_law_315 (w_ok (by omega) (by omega)) ?_
    refine a_sld (i + 2) dL_law_316 (by omega) (by omega) ?_
    rw [ha2]
    refine a_aload_n (j := 0) dL_law_317 rfl rfl (Nat.le_of_ble_eq_true rfl) ?_
    refine a_iload_n (j := 3) dL_law_318 rfl rfl ?_
    refine a_iconst dL_law_319 ⟨by decide, by decide⟩ ?_
    refine a_iadd (z := (((i : Nat) : Int) + 3)) dL_law_320 (w_ok (by omega) (by omega)) ?_
    refine a_sld (i + 3) dL_law_321 (by omega) (by omega) ?_
    rw [ha3]
    refine a_aload_n (j := 0) dL_law_322 rfl rfl (Nat.le_of_ble_eq_true rfl) ?_
    refine a_iload_n (j := 3) dL_law_323 rfl rfl ?_
    refine a_iconst dL_law_324 ⟨by decide, by decide⟩ ?_
    refine a_iadd (z := (((i : Nat) : Int) + 4)) dL_law_325 (w_ok (by omega) (by omega)) ?_
    refine a_sld (i + 4) dL_law_326 (by omega) (by omega) ?_
    rw [ha4]
    refine b_callV (d' := d - 1) (mc' := 0) (ms' := 0) (mc1 := mc) (ms1 := ms) (st := [vI ((((t0 : Nat) : Int) + 1) - 1)]) (b := 123) [vI a1, vI a2, vI a3, vI a4] dL_law_327 mwX9_train lkL_26 (by decide) rfl rc_X9 rfl (Nat.le_of_ble_eq_true rfl) (by omega) (by omega) (by omega) (c_X9_train (v1 := (N 4)) (v2 := ((t0 : Nat) : Int)) (by omega)  ((up2_ne (by omega)).trans ((up2_ne (by omega)).trans ((up2_ne (by omega)).trans ((up2_ne (by omega)).trans ((up2_ne (by omega)).trans ((up2_ne (by omega)).trans ((upR_ne (by omega)).trans ((up2_ne (by omega)).trans ((up2_ne (by omega)).trans ((up2_ne (by omega)).trans ((up2_ne (by omega)).trans ((up2_ne (by omega)).trans (congrFun hN _))))))))))))) ((up2_ne (by omega)).trans ((up2_ne (by omega)).trans ((up2_ne (by omega)).trans ((up2_ne (by omega)).trans ((up2_ne (by omega)).trans ((up2_ne (by omega)).trans ((upR_ne (by omega)).trans ((up2_ne (by omega)).trans ((up2_ne (by omega)).trans ((up2_ne (by omega)).trans ((up2_ne (by omega)).trans ((up2_ne (by omega)).trans ((congrFun hN 5).trans ht0))))))))))))) (show 0 ≤ (N 4) ∧ (N 4) ≤ 6 by omega) (show 0 ≤ ((t0 : Nat) : Int) ∧ ((t0 : Nat) : Int) ≤ 12 by omega) (fun t3_1_6 c10_2_6 => ?_) (fun t3_1_6 c10_2_6 t18_3_6 t29_4_6 c43_5_6 => ?_) (fun t3_1_6 c10_2_6 t18_3_6 t29_4_6 c43_5_6 t63_6_6 t75_7_6 c92_9_6 => ?_) (fun t3_1_6 c10_2_6 t18_3_6 t29_4_6 c43_5_6 t63_6_6 t75_7_6 c92_9_6 => ?_) (fun t3_1_6 c10_2_6 t18_3_6 t29_4_6 c43_5_6 t63_6_6 t75_7_6 => ?_) (fun t3_1_6 c10_2_6 t18_3_6 t29_4_6 c43_5_6 t63_6_6 => ?_) (fun t3_1_6 c10_2_6 t18_3_6 t29_4_6 => ?_) (fun t3_1_6 c10_2_6 t18_3_6 => ?_) (fun t3_1_6 => ?_))
    · have t3_1_6 : 0 ≤ a1 ∧ a1 ≤ 5 := t3_1_6
      have c10_2_6 : a2 < 0 := c10_2_6
      show Aj γ mL_law d mc ms Post 330 [(0, vK 0), (1, vA 0), (2, vA 123), (3, vI ((i : Nat) : Int))] [vI (-1000000001), vI ((((t0 : Nat) : Int) + 1) - 1)] (mk (up2 (up2 (up2 (up2 (up2 (up2 (upR (up2 (up2 (up2 (up2 (up2 h (8 + 2 * t0) 0 a1) (8 + 2 * t0) 1 (Int.tdiv a2 10)) (8 + 2 * t0) 2 (Int.tmod a2 10)) (8 + 2 * t0) 5 0) (8 + 2 * t0) 6 (-1000000005)) ((8 + 2 * t0) + 1) (fillR 0 4 (h ((8 + 2 * t0) + 1)))) ((8 + 2 * t0) + 1) 0 100) (8 + 2 * t0) 3 a3) (8 + 2 * t0) 4 a4) 1 3 (((t0 : Nat) : Int) + 1)) 0 3 ((h 0 3) + 1)) 1 0 ((h 0 3) + 1)) τ)
      refine a_icmp_eq (tgt := 1668) dL_law_330 (by decide) (fun c330_8 => ?_) (fun c330_8 => ?_)
      · exfalso
        omega
      · refine a_iconst dL_law_333 ⟨by decide, by decide⟩ ?_
        exact a_zret dL_law_334 rfl (by first | exact Or.inl rfl | exact Or.inr rfl | omega) (by exfalso; omega)
    · have t3_1_6 : 0 ≤ a1 ∧ a1 ≤ 5 := t3_1_6
      have c10_2_6 : ¬ a2 < 0 := c10_2_6
      have t18_3_6 : 0 ≤ (a2 / 10) ∧ (a2 / 10) < (N 4) := t18_3_6
      have t29_4_6 : 0 ≤ (a2 % 10) ∧ (a2 % 10) < (N 4) := t29_4_6
      have c43_5_6 : (a2 / 10) = (a2 % 10) := c43_5_6
      show Aj γ mL_law d mc ms Post 330 [(0, vK 0), (1, vA 0), (2, vA 123), (3, vI ((i : Nat) : Int))] [vI (-1000000001), vI ((((t0 : Nat) : Int) + 1) - 1)] (mk (up2 (up2 (up2 (up2 (up2 (up2 (upR (up2 (up2 (up2 (up2 (up2 h (8 + 2 * t0) 0 a1) (8 + 2 * t0) 1 (Int.tdiv a2 10)) (8 + 2 * t0) 2 (Int.tmod a2 10)) (8 + 2 * t0) 5 0) (8 + 2 * t0) 6 (-1000000005)) ((8 + 2 * t0) + 1) (fillR 0 4 (h ((8 + 2 * t0) + 1)))) ((8 + 2 * t0) + 1) 0 100) (8 + 2 * t0) 3 a3) (8 + 2 * t0) 4 a4) 1 3 (((t0 : Nat) : Int) + 1)) 0 3 ((h 0 3) + 1)) 1 0 ((h 0 3) + 1)) τ)
      refine a_icmp_eq (tgt := 1668) dL_law_330 (by decide) (fun c330_9 => ?_) (fun c330_9 => ?_)
      · exfalso
        omega
      · refine a_iconst dL_law_333 ⟨by decide, by decide⟩ ?_
        exact a_zret dL_law_334 rfl (by first | exact Or.inl rfl | exact Or.inr rfl | omega) (by exfalso; omega)
    · have t3_1_6 : 0 ≤ a1 ∧ a1 ≤ 5 := t3_1_6
      have c10_2_6 : ¬ a2 < 0 := c10_2_6
      have t18_3_6 : 0 ≤ (a2 / 10) ∧ (a2 / 10) < (N 4) := t18_3_6
      have t29_4_6 : 0 ≤ (a2 % 10) ∧ (a2 % 10) < (N 4) := t29_4_6
      have c43_5_6 : ¬ (a2 / 10) = (a2 % 10) := c43_5_6
      have t63_6_6 : 0 ≤ a3 ∧ a3 ≤ 1439 := t63_6_6
      have t75_7_6 : 1 ≤ a4 ∧ a4 ≤ 600 := t75_7_6
      have c92_9_6 : ¬ ((t0 : Nat) : Int) = 12 := c92_9_6
      show Aj γ mL_law d mc ms Post 330 [(0, vK 0), (1, vA 0), (2, vA 123), (3, vI ((i : Nat) : Int))] [vI ((t0 : Nat) : Int), vI ((((t0 : Nat) : Int) + 1) - 1)] (mk (up2 (up2 (up2 (up2 (up2 (up2 (up2 (up2 (up2 (up2 (up2 (up2 (up2 (up2 (up2 (up2 (up2 (up2 (up2 (up2 (up2 (up2 (up2 (up2 (up2 (up2 (upR (up2 (up2 (up2 (up2 (up2 h (8 + 2 * t0) 0 a1) (8 + 2 * t0) 1 (Int.tdiv a2 10)) (8 + 2 * t0) 2 (Int.tmod a2 10)) (8 + 2 * t0) 5 0) (8 + 2 * t0) 6 (-1000000005)) ((8 + 2 * t0) + 1) (fillR 0 4 (h ((8 + 2 * t0) + 1)))) ((8 + 2 * t0) + 1) 0 100) (8 + 2 * t0) 3 a3) (8 + 2 * t0) 4 a4) 1 3 (((t0 : Nat) : Int) + 1)) 0 3 ((h 0 3) + 1)) 1 0 ((h 0 3) + 1)) 124 (Int.toNat ((15 + (11 * ((t0 : Nat) : Int))) + 0)) 0) 124 (Int.toNat ((15 + (11 * ((t0 : Nat) : Int))) + 1)) 0) 124 (Int.toNat ((15 + (11 * ((t0 : Nat) : Int))) + 2)) 0) 124 (Int.toNat ((15 + (11 * ((t0 : Nat) : Int))) + 3)) 0) 124 (Int.toNat ((15 + (11 * ((t0 : Nat) : Int))) + 4)) 0) 124 (Int.toNat ((15 + (11 * ((t0 : Nat) : Int))) + 5)) 0) 124 (Int.toNat ((15 + (11 * ((t0 : Nat) : Int))) + 6)) 0) 124 (Int.toNat ((15 + (11 * ((t0 : Nat) : Int))) + 7)) 0) 124 (Int.toNat ((15 + (11 * ((t0 : Nat) : Int))) + 8)) 0) 124 (Int.toNat ((15 + (11 * ((t0 : Nat) : Int))) + 9)) 0) 124 (Int.toNat ((15 + (11 * ((t0 : Nat) : Int))) + 10)) 0) 124 5 (((t0 : Nat) : Int) + 1)) 124 (Int.toNat (15 + (11 * ((t0 : Nat) : Int)))) a1) 124 (Int.toNat ((15 + (11 * ((t0 : Nat) : Int))) + 1)) (a2 / 10)) 124 (Int.toNat ((15 + (11 * ((t0 : Nat) : Int))) + 2)) (a2 % 10)) 124 (Int.toNat ((15 + (11 * ((t0 : Nat) : Int))) + 3)) a3) 124 (Int.toNat ((15 + (11 * ((t0 : Nat) : Int))) + 4)) a4) 124 (Int.toNat ((15 + (11 * ((t0 : Nat) : Int))) + 6)) (-1)) 124 (Int.toNat ((15 + (11 * ((t0 : Nat) : Int))) + 7)) 100) 123 4 0) τ)
      refine a_icmp_eq (tgt := 1668) dL_law_330 (by decide) (fun c330_10 => ?_) (fun c330_10 => ?_)
      · generalize hHH : (up2 (up2 (up2 (up2 (up2 (up2 (up2 (up2 (up2 (up2 (up2 (up2 (up2 (up2 (up2 (up2 (up2 (up2 (up2 (up2 (up2 (up2 (up2 (up2 (up2 (up2 (upR (up2 (up2 (up2 (up2 (up2 h (8 + 2 * t0) 0 a1) (8 + 2 * t0) 1 (Int.tdiv a2 10)) (8 + 2 * t0) 2 (Int.tmod a2 10)) (8 + 2 * t0) 5 0) (8 + 2 * t0) 6 (-1000000005)) ((8 + 2 * t0) + 1) (fillR 0 4 (h ((8 + 2 * t0) + 1)))) ((8 + 2 * t0) + 1) 0 100) (8 + 2 * t0) 3 a3) (8 + 2 * t0) 4 a4) 1 3 (((t0 : Nat) : Int) + 1)) 0 3 ((h 0 3) + 1)) 1 0 ((h 0 3) + 1)) 124 (Int.toNat ((15 + (11 * ((t0 : Nat) : Int))) + 0)) 0) 124 (Int.toNat ((15 + (11 * ((t0 : Nat) : Int))) + 1)) 0) 124 (Int.toNat ((15 + (11 * ((t0 : Nat) : Int))) + 2)) 0) 124 (Int.toNat ((15 + (11 * ((t0 : Nat) : Int))) + 3)) 0) 124 (Int.toNat ((15 + (11 * ((t0 : Nat) : Int))) + 4)) 0) 124 (Int.toNat ((15 + (11 * ((t0 : Nat) : Int))) + 5)) 0) 124 (Int.toNat ((15 + (11 * ((t0 : Nat) : Int))) + 6)) 0) 124 (Int.toNat ((15 + (11 * ((t0 : Nat) : Int))) + 7)) 0) 124 (Int.toNat ((15 + (11 * ((t0 : Nat) : Int))) + 8)) 0) 124 (Int.toNat ((15 + (11 * ((t0 : Nat) : Int))) + 9)) 0) 124 (Int.toNat ((15 + (11 * ((t0 : Nat) : Int))) + 10)) 0) 124 5 (((t0 : Nat) : Int) + 1)) 124 (Int.toNat (15 + (11 * ((t0 : Nat) : Int)))) a1) 124 (Int.toNat ((15 + (11 * ((t0 : Nat) : Int))) + 1)) (a2 / 10)) 124 (Int.toNat ((15 + (11 * ((t0 : Nat) : Int))) + 2)) (a2 % 10)) 124 (Int.toNat ((15 + (11 * ((t0 : Nat) : Int))) + 3)) a3) 124 (Int.toNat ((15 + (11 * ((t0 : Nat) : Int))) + 4)) a4) 124 (Int.toNat ((15 + (11 * ((t0 : Nat) : Int))) + 6)) (-1)) 124 (Int.toNat ((15 + (11 * ((t0 : Nat) : Int))) + 7)) 100) 123 4 0) = H
        have c0_ : H (8 + 2 * t0) 0 = a1 := by rw [← hHH]; exact ((up2_ne (by omega)).trans ((up2_ne (by omega)).trans ((up2_ne (by omega)).trans ((up2_ne (by omega)).trans ((up2_ne (by omega)).trans ((up2_ne (by omega)).trans ((up2_ne (by omega)).trans ((up2_ne (by omega)).trans ((up2_ne (by omega)).trans ((up2_ne (by omega)).trans ((up2_ne (by omega)).trans ((up2_ne (by omega)).trans ((up2_ne (by omega)).trans ((up2_ne (by omega)).trans ((up2_ne (by omega)).trans ((up2_ne (by omega)).trans ((up2_ne (by omega)).trans ((up2_ne (by omega)).trans ((up2_ne (by omega)).trans ((up2_ne (by omega)).trans ((up2_ne (by omega)).trans ((up2_ne (by omega)).trans ((up2_ne (by omega)).trans ((up2_ne (by omega)).trans ((up2_ne (by omega)).trans ((up2_ne (by omega)).trans ((upR_ne (by omega)).trans ((up2_ne (by omega)).trans ((up2_ne (by omega)).trans ((up2_ne (by omega)).trans ((up2_ne (by omega)).trans (up2_hit (by omega) (by omega)))))))))))))))))))))))))))))))))
        have f15_ : H 124 (15 + 11 * t0) = a1 := by rw [← hHH]; exact ((up2_ne (by omega)).trans ((up2_ne (by omega)).trans ((up2_ne (by omega)).trans ((up2_ne (by omega)).trans ((up2_ne (by omega)).trans ((up2_ne (by omega)).trans ((up2_ne (by omega)).trans (up2_hit (by omega) (by omega)))))))))
        have c1_ : H (8 + 2 * t0) 1 = (Int.tdiv a2 10) := by rw [← hHH]; exact ((up2_ne (by omega)).trans ((up2_ne (by omega)).trans ((up2_ne (by omega)).trans ((up2_ne (by omega)).trans ((up2_ne (by omega)).trans ((up2_ne (by omega)).trans ((up2_ne (by omega)).trans ((up2_ne (by omega)).trans ((up2_ne (by omega)).trans ((up2_ne (by omega)).trans ((up2_ne (by omega)).trans ((up2_ne (by omega)).trans ((up2_ne (by omega)).trans ((up2_ne (by omega)).trans ((up2_ne (by omega)).trans ((up2_ne (by omega)).trans ((up2_ne (by omega)).trans ((up2_ne (by omega)).trans ((up2_ne (by omega)).trans ((up2_ne (by omega)).trans ((up2_ne (by omega)).trans ((up2_ne (by omega)).trans ((up2_ne (by omega)).trans ((up2_ne (by omega)).trans ((up2_ne (by omega)).trans ((up2_ne (by omega)).trans ((upR_ne (by omega)).trans ((up2_ne (by omega)).trans ((up2_ne (by omega)).trans ((up2_ne (by omega)).trans (up2_hit (by omega) (by omega))))))))))))))))))))))))))))))))
        have f16_ : H 124 (16 + 11 * t0) = (a2 / 10) := by rw [← hHH]; exact ((up2_ne (by omega)).trans ((up2_ne (by omega)).trans ((up2_ne (by omega)).trans ((up2_ne (by omega)).trans ((up2_ne (by omega)).trans ((up2_ne (by omega)).trans (up2_hit (by omega) (by omega))))))))
        have c2_ : H (8 + 2 * t0) 2 = (Int.tmod a2 10) := by rw [← hHH]; exact ((up2_ne (by omega)).trans ((up2_ne (by omega)).trans ((up2_ne (by omega)).trans ((up2_ne (by omega)).trans ((up2_ne (by omega)).trans ((up2_ne (by omega)).trans ((up2_ne (by omega)).trans ((up2_ne (by omega)).trans ((up2_ne (by omega)).trans ((up2_ne (by omega)).trans ((up2_ne (by omega)).trans ((up2_ne (by omega)).trans ((up2_ne (by omega)).trans ((up2_ne (by omega)).trans ((up2_ne (by omega)).trans ((up2_ne (by omega)).trans ((up2_ne (by omega)).trans ((up2_ne (by omega)).trans ((up2_ne (by omega)).trans ((up2_ne (by omega)).trans ((up2_ne (by omega)).trans ((up2_ne (by omega)).trans ((up2_ne (by omega)).trans ((up2_ne (by omega)).trans ((up2_ne (by omega)).trans ((up2_ne (by omega)).trans ((upR_ne (by omega)).trans ((up2_ne (by omega)).trans ((up2_ne (by omega)).trans (up2_hit (by omega) (by omega)))))))))))))))))))))))))))))))
        have f17_ : H 124 (17 + 11 * t0) = (a2 % 10) := by rw [← hHH]; exact ((up2_ne (by omega)).trans ((up2_ne (by omega)).trans ((up2_ne (by omega)).trans ((up2_ne (by omega)).trans ((up2_ne (by omega)).trans (up2_hit (by omega) (by omega)))))))
        have c3_ : H (8 + 2 * t0) 3 = a3 := by rw [← hHH]; exact ((up2_ne (by omega)).trans ((up2_ne (by omega)).trans ((up2_ne (by omega)).trans ((up2_ne (by omega)).trans ((up2_ne (by omega)).trans ((up2_ne (by omega)).trans ((up2_ne (by omega)).trans ((up2_ne (by omega)).trans ((up2_ne (by omega)).trans ((up2_ne (by omega)).trans ((up2_ne (by omega)).trans ((up2_ne (by omega)).trans ((up2_ne (by omega)).trans ((up2_ne (by omega)).trans ((up2_ne (by omega)).trans ((up2_ne (by omega)).trans ((up2_ne (by omega)).trans ((up2_ne (by omega)).trans ((up2_ne (by omega)).trans ((up2_ne (by omega)).trans ((up2_ne (by omega)).trans ((up2_ne (by omega)).trans ((up2_ne (by omega)).trans ((up2_ne (by omega)).trans (up2_hit (by omega) (by omega))))))))))))))))))))))))))
        have f18_ : H 124 (18 + 11 * t0) = a3 := by rw [← hHH]; exact ((up2_ne (by omega)).trans ((up2_ne (by omega)).trans ((up2_ne (by omega)).trans ((up2_ne (by omega)).trans (up2_hit (by omega) (by omega))))))
        have c4_ : H (8 + 2 * t0) 4 = a4 := by rw [← hHH]; exact ((up2_ne (by omega)).trans ((up2_ne (by omega)).trans ((up2_ne (by omega)).trans ((up2_ne (by omega)).trans ((up2_ne (by omega)).trans ((up2_ne (by omega)).trans ((up2_ne (by omega)).trans ((up2_ne (by omega)).trans ((up2_ne (by omega)).trans ((up2_ne (by omega)).trans ((up2_ne (by omega)).trans ((up2_ne (by omega)).trans ((up2_ne (by omega)).trans ((up2_ne (by omega)).trans ((up2_ne (by omega)).trans ((up2_ne (by omega)).trans ((up2_ne (by omega)).trans ((up2_ne (by omega)).trans ((up2_ne (by omega)).trans ((up2_ne (by omega)).trans ((up2_ne (by omega)).trans ((up2_ne (by omega)).trans ((up2_ne (by omega)).trans (up2_hit (by omega) (by omega)))))))))))))))))))))))))
        have f19_ : H 124 (19 + 11 * t0) = a4 := by rw [← hHH]; exact ((up2_ne (by omega)).trans ((up2_ne (by omega)).trans ((up2_ne (by omega)).trans (up2_hit (by omega) (by omega)))))
        have c5_ : H (8 + 2 * t0) 5 = 0 := by rw [← hHH]; exact ((up2_ne (by omega)).trans ((up2_ne (by omega)).trans ((up2_ne (by omega)).trans ((up2_ne (by omega)).trans ((up2_ne (by omega)).trans ((up2_ne (by omega)).trans ((up2_ne (by omega)).trans ((up2_ne (by omega)).trans ((up2_ne (by omega)).trans ((up2_ne (by omega)).trans ((up2_ne (by omega)).trans ((up2_ne (by omega)).trans ((up2_ne (by omega)).trans ((up2_ne (by omega)).trans ((up2_ne (by omega)).trans ((up2_ne (by omega)).trans ((up2_ne (by omega)).trans ((up2_ne (by omega)).trans ((up2_ne (by omega)).trans ((up2_ne (by omega)).trans ((up2_ne (by omega)).trans ((up2_ne (by omega)).trans ((up2_ne (by omega)).trans ((up2_ne (by omega)).trans ((up2_ne (by omega)).trans ((up2_ne (by omega)).trans ((upR_ne (by omega)).trans ((up2_ne (by omega)).trans (up2_hit (by omega) (by omega))))))))))))))))))))))))))))))
        have f20_ : H 124 (20 + 11 * t0) = 0 := by rw [← hHH]; exact ((up2_ne (by omega)).trans ((up2_ne (by omega)).trans ((up2_ne (by omega)).trans ((up2_ne (by omega)).trans ((up2_ne (by omega)).trans ((up2_ne (by omega)).trans ((up2_ne (by omega)).trans ((up2_ne (by omega)).trans ((up2_ne (by omega)).trans ((up2_ne (by omega)).trans ((up2_ne (by omega)).trans ((up2_ne (by omega)).trans ((up2_ne (by omega)).trans ((up2_ne (by omega)).trans (up2_hit (by omega) (by omega))))))))))))))))
        have c6_ : H (8 + 2 * t0) 6 = (-1000000005) := by rw [← hHH]; exact ((up2_ne (by omega)).trans ((up2_ne (by omega)).trans ((up2_ne (by omega)).trans ((up2_ne (by omega)).trans ((up2_ne (by omega)).trans ((up2_ne (by omega)).trans ((up2_ne (by omega)).trans ((up2_ne (by omega)).trans ((up2_ne (by omega)).trans ((up2_ne (by omega)).trans ((up2_ne (by omega)).trans ((up2_ne (by omega)).trans ((up2_ne (by omega)).trans ((up2_ne (by omega)).trans ((up2_ne (by omega)).trans ((up2_ne (by omega)).trans ((up2_ne (by omega)).trans ((up2_ne (by omega)).trans ((up2_ne (by omega)).trans ((up2_ne (by omega)).trans ((up2_ne (by omega)).trans ((up2_ne (by omega)).trans ((up2_ne (by omega)).trans ((up2_ne (by omega)).trans ((up2_ne (by omega)).trans ((up2_ne (by omega)).trans ((upR_ne (by omega)).trans (up2_hit (by omega) (by omega)))))))))))))))))))))))))))))
        have f21_ : H 124 (21 + 11 * t0) = (-1) := by rw [← hHH]; exact ((up2_ne (by omega)).trans ((up2_ne (by omega)).trans (up2_hit (by omega) (by omega))))
        have f4_ : H 124 4 = N 4 := by rw [← hHH]; exact ((up2_ne (by omega)).trans ((up2_ne (by omega)).trans ((up2_ne (by omega)).trans ((up2_ne (by omega)).trans ((up2_ne (by omega)).trans ((up2_ne (by omega)).trans ((up2_ne (by omega)).trans ((up2_ne (by omega)).trans ((up2_ne (by omega)).trans ((up2_ne (by omega)).trans ((up2_ne (by omega)).trans ((up2_ne (by omega)).trans ((up2_ne (by omega)).trans ((up2_ne (by omega)).trans ((up2_ne (by omega)).trans ((up2_ne (by omega)).trans ((up2_ne (by omega)).trans ((up2_ne (by omega)).trans ((up2_ne (by omega)).trans ((up2_ne (by omega)).trans ((up2_ne (by omega)).trans ((up2_ne (by omega)).trans ((up2_ne (by omega)).trans ((up2_ne (by omega)).trans ((up2_ne (by omega)).trans ((up2_ne (by omega)).trans ((upR_ne (by omega)).trans ((up2_ne (by omega)).trans ((up2_ne (by omega)).trans ((up2_ne (by omega)).trans ((up2_ne (by omega)).trans ((up2_ne (by omega)).trans (congrFun hN _)))))))))))))))))))))))))))))))))
        have e0_ : H ((8 + 2 * t0) + 1) 0 = 100 := by rw [← hHH]; exact ((up2_ne (by omega)).trans ((up2_ne (by omega)).trans ((up2_ne (by omega)).trans ((up2_ne (by omega)).trans ((up2_ne (by omega)).trans ((up2_ne (by omega)).trans ((up2_ne (by omega)).trans ((up2_ne (by omega)).trans ((up2_ne (by omega)).trans ((up2_ne (by omega)).trans ((up2_ne (by omega)).trans ((up2_ne (by omega)).trans ((up2_ne (by omega)).trans ((up2_ne (by omega)).trans ((up2_ne (by omega)).trans ((up2_ne (by omega)).trans ((up2_ne (by omega)).trans ((up2_ne (by omega)).trans ((up2_ne (by omega)).trans ((up2_ne (by omega)).trans ((up2_ne (by omega)).trans ((up2_ne (by omega)).trans ((up2_ne (by omega)).trans ((up2_ne (by omega)).trans ((up2_ne (by omega)).trans (up2_hit (by omega) (by omega)))))))))))))))))))))))))))
        have g0_ : H 124 (22 + 11 * t0 + 0) = 100 := by rw [← hHH]; exact ((up2_ne (by omega)).trans (up2_hit (by omega) (by omega)))
        have e1_ : H ((8 + 2 * t0) + 1) 1 = ((fillR 0 4 (h ((8 + 2 * t0) + 1))) 1) := by rw [← hHH]; exact ((up2_ne (by omega)).trans ((up2_ne (by omega)).trans ((up2_ne (by omega)).trans ((up2_ne (by omega)).trans ((up2_ne (by omega)).trans ((up2_ne (by omega)).trans ((up2_ne (by omega)).trans ((up2_ne (by omega)).trans ((up2_ne (by omega)).trans ((up2_ne (by omega)).trans ((up2_ne (by omega)).trans ((up2_ne (by omega)).trans ((up2_ne (by omega)).trans ((up2_ne (by omega)).trans ((up2_ne (by omega)).trans ((up2_ne (by omega)).trans ((up2_ne (by omega)).trans ((up2_ne (by omega)).trans ((up2_ne (by omega)).trans ((up2_ne (by omega)).trans ((up2_ne (by omega)).trans ((up2_ne (by omega)).trans ((up2_ne (by omega)).trans ((up2_ne (by omega)).trans ((up2_ne (by omega)).trans ((up2_ne (by omega)).trans (upR_hit (by omega))))))))))))))))))))))))))))
        have g1_ : H 124 (22 + 11 * t0 + 1) = 0 := by rw [← hHH]; exact ((up2_ne (by omega)).trans ((up2_ne (by omega)).trans ((up2_ne (by omega)).trans ((up2_ne (by omega)).trans ((up2_ne (by omega)).trans ((up2_ne (by omega)).trans ((up2_ne (by omega)).trans ((up2_ne (by omega)).trans ((up2_ne (by omega)).trans ((up2_ne (by omega)).trans ((up2_ne (by omega)).trans (up2_hit (by omega) (by omega)))))))))))))
        have e2_ : H ((8 + 2 * t0) + 1) 2 = ((fillR 0 4 (h ((8 + 2 * t0) + 1))) 2) := by rw [← hHH]; exact ((up2_ne (by omega)).trans ((up2_ne (by omega)).trans ((up2_ne (by omega)).trans ((up2_ne (by omega)).trans ((up2_ne (by omega)).trans ((up2_ne (by omega)).trans ((up2_ne (by omega)).trans ((up2_ne (by omega)).trans ((up2_ne (by omega)).trans ((up2_ne (by omega)).trans ((up2_ne (by omega)).trans ((up2_ne (by omega)).trans ((up2_ne (by omega)).trans ((up2_ne (by omega)).trans ((up2_ne (by omega)).trans ((up2_ne (by omega)).trans ((up2_ne (by omega)).trans ((up2_ne (by omega)).trans ((up2_ne (by omega)).trans ((up2_ne (by omega)).trans ((up2_ne (by omega)).trans ((up2_ne (by omega)).trans ((up2_ne (by omega)).trans ((up2_ne (by omega)).trans ((up2_ne (by omega)).trans ((up2_ne (by omega)).trans (upR_hit (by omega))))))))))))))))))))))))))))
        have g2_ : H 124 (22 + 11 * t0 + 2) = 0 := by rw [← hHH]; exact ((up2_ne (by omega)).trans ((up2_ne (by omega)).trans ((up2_ne (by omega)).trans ((up2_ne (by omega)).trans ((up2_ne (by omega)).trans ((up2_ne (by omega)).trans ((up2_ne (by omega)).trans ((up2_ne (by omega)).trans ((up2_ne (by omega)).trans ((up2_ne (by omega)).trans (up2_hit (by omega) (by omega))))))))))))
        have e3_ : H ((8 + 2 * t0) + 1) 3 = ((fillR 0 4 (h ((8 + 2 * t0) + 1))) 3) := by rw [← hHH]; exact ((up2_ne (by omega)).trans ((up2_ne (by omega)).trans ((up2_ne (by omega)).trans ((up2_ne (by omega)).trans ((up2_ne (by omega)).trans ((up2_ne (by omega)).trans ((up2_ne (by omega)).trans ((up2_ne (by omega)).trans ((up2_ne (by omega)).trans ((up2_ne (by omega)).trans ((up2_ne (by omega)).trans ((up2_ne (by omega)).trans ((up2_ne (by omega)).trans ((up2_ne (by omega)).trans ((up2_ne (by omega)).trans ((up2_ne (by omega)).trans ((up2_ne (by omega)).trans ((up2_ne (by omega)).trans ((up2_ne (by omega)).trans ((up2_ne (by omega)).trans ((up2_ne (by omega)).trans ((up2_ne (by omega)).trans ((up2_ne (by omega)).trans ((up2_ne (by omega)).trans ((up2_ne (by omega)).trans ((up2_ne (by omega)).trans (upR_hit (by omega))))))))))))))))))))))))))))
        have g3_ : H 124 (22 + 11 * t0 + 3) = 0 := by rw [← hHH]; exact ((up2_ne (by omega)).trans ((up2_ne (by omega)).trans ((up2_ne (by omega)).trans ((up2_ne (by omega)).trans ((up2_ne (by omega)).trans ((up2_ne (by omega)).trans ((up2_ne (by omega)).trans ((up2_ne (by omega)).trans ((up2_ne (by omega)).trans (up2_hit (by omega) (by omega)))))))))))
        have f22_ : H 124 (22 + 11 * t0) = 100 := by rw [← hHH]; exact ((up2_ne (by omega)).trans (up2_hit (by omega) (by omega)))
        have hr : trR (H 124) t0 := by unfold trR; rw [f4_, f15_, f16_, f17_, f18_, f19_, f20_, f21_, f22_, g1_, g2_, g3_]; omega
        have hw : trW H (8 + 2 * t0) (H 124) t0 := ⟨(by rw [c0_, f15_] <;> omega), (by rw [c1_, f16_] <;> omega), (by rw [c2_, f17_] <;> omega), (by rw [c3_, f18_] <;> omega), (by rw [c4_, f19_] <;> omega), (by rw [c5_, f20_] <;> omega), (by rw [c6_, f21_]; unfold hsF; first | (rw [if_pos (by omega)] <;> omega) | (rw [if_neg (by omega)] <;> omega)), fun s hs => by
          rcases (show s = 0 ∨ s = 1 ∨ s = 2 ∨ s = 3 by omega) with rfl | rfl | rfl | rfl
          · (rw [show H (8 + 2 * t0 + 1) 0 = _ from e0_, g0_] <;> first | rfl | omega)
          · (rw [show H (8 + 2 * t0 + 1) 1 = _ from e1_, g1_] <;> first | rfl | omega)
          · (rw [show H (8 + 2 * t0 + 1) 2 = _ from e2_, g2_] <;> first | rfl | omega)
          · (rw [show H (8 + 2 * t0 + 1) 3 = _ from e3_, g3_] <;> first | rfl | omega)⟩
        have a1_ : ∀ k : Nat, k ≠ 0 → k ≠ 3 → H 1 k = h 1 k := fun k q0_ q1_ => by rw [← hHH]; exact ((up2_ne (by omega)).trans ((up2_ne (by omega)).trans ((up2_ne (by omega)).trans ((up2_ne (by omega)).trans ((up2_ne (by omega)).trans ((up2_ne (by omega)).trans ((up2_ne (by omega)).trans ((up2_ne (by omega)).trans ((up2_ne (by omega)).trans ((up2_ne (by omega)).trans ((up2_ne (by omega)).trans ((up2_ne (by omega)).trans ((up2_ne (by omega)).trans ((up2_ne (by omega)).trans ((up2_ne (by omega)).trans ((up2_ne (by omega)).trans ((up2_ne (by omega)).trans ((up2_ne (by omega)).trans ((up2_ne (by omega)).trans ((up2_ne (by omega)).trans ((up2_ne (by omega)).trans ((up2_ne (by omega)).trans ((up2_ne (by omega)).trans ((up2_ne (by omega)).trans ((up2_ne (by omega)).trans ((up2_ne (by omega)).trans ((upR_ne (by omega)).trans ((up2_ne (by omega)).trans ((up2_ne (by omega)).trans ((up2_ne (by omega)).trans ((up2_ne (by omega)).trans ((up2_ne (by omega)).trans rfl))))))))))))))))))))))))))))))))
        have a2_ : H 1 3 = (((t0 : Nat) : Int) + 1) := by rw [← hHH]; exact ((up2_ne (by omega)).trans ((up2_ne (by omega)).trans ((up2_ne (by omega)).trans ((up2_ne (by omega)).trans ((up2_ne (by omega)).trans ((up2_ne (by omega)).trans ((up2_ne (by omega)).trans ((up2_ne (by omega)).trans ((up2_ne (by omega)).trans ((up2_ne (by omega)).trans ((up2_ne (by omega)).trans ((up2_ne (by omega)).trans ((up2_ne (by omega)).trans ((up2_ne (by omega)).trans ((up2_ne (by omega)).trans ((up2_ne (by omega)).trans ((up2_ne (by omega)).trans ((up2_ne (by omega)).trans ((up2_ne (by omega)).trans ((up2_ne (by omega)).trans ((up2_ne (by omega)).trans ((up2_ne (by omega)).trans (up2_hit (by omega) (by omega))))))))))))))))))))))))
        have a5_ : ∀ c, 2 ≤ c → c < 32 → c ≠ 8 + 2 * t0 → c ≠ 8 + 2 * t0 + 1 → H c = h c := fun c q0_ q1_ q2_ q3_ => by rw [← hHH]; exact ((up2_row (by omega)).trans ((up2_row (by omega)).trans ((up2_row (by omega)).trans ((up2_row (by omega)).trans ((up2_row (by omega)).trans ((up2_row (by omega)).trans ((up2_row (by omega)).trans ((up2_row (by omega)).trans ((up2_row (by omega)).trans ((up2_row (by omega)).trans ((up2_row (by omega)).trans ((up2_row (by omega)).trans ((up2_row (by omega)).trans ((up2_row (by omega)).trans ((up2_row (by omega)).trans ((up2_row (by omega)).trans ((up2_row (by omega)).trans ((up2_row (by omega)).trans ((up2_row (by omega)).trans ((up2_row (by omega)).trans ((up2_row (by omega)).trans ((up2_row (by omega)).trans ((up2_row (by omega)).trans ((up2_row (by omega)).trans ((up2_row (by omega)).trans ((up2_row (by omega)).trans ((upR_rn (by omega)).trans ((up2_row (by omega)).trans ((up2_row (by omega)).trans ((up2_row (by omega)).trans ((up2_row (by omega)).trans ((up2_row (by omega)).trans rfl))))))))))))))))))))))))))))))))
        have n1_ : H 124 5 = (((t0 : Nat) : Int) + 1) := by rw [← hHH]; exact ((up2_ne (by omega)).trans ((up2_ne (by omega)).trans ((up2_ne (by omega)).trans ((up2_ne (by omega)).trans ((up2_ne (by omega)).trans ((up2_ne (by omega)).trans ((up2_ne (by omega)).trans ((up2_ne (by omega)).trans (up2_hit (by omega) (by omega))))))))))
        have n3_ : ∀ k : Nat, k ≠ 5 → (k < 15 + 11 * t0 ∨ 15 + 11 * t0 + 11 ≤ k) → H 124 k = N k := fun k q0_ q1_ => by rw [← hHH]; exact ((up2_ne (by omega)).trans ((up2_ne (by omega)).trans ((up2_ne (by omega)).trans ((up2_ne (by omega)).trans ((up2_ne (by omega)).trans ((up2_ne (by omega)).trans ((up2_ne (by omega)).trans ((up2_ne (by omega)).trans ((up2_ne (by omega)).trans ((up2_ne (by omega)).trans ((up2_ne (by omega)).trans ((up2_ne (by omega)).trans ((up2_ne (by omega)).trans ((up2_ne (by omega)).trans ((up2_ne (by omega)).trans ((up2_ne (by omega)).trans ((up2_ne (by omega)).trans ((up2_ne (by omega)).trans ((up2_ne (by omega)).trans ((up2_ne (by omega)).trans ((up2_ne (by omega)).trans ((up2_ne (by omega)).trans ((up2_ne (by omega)).trans ((up2_ne (by omega)).trans ((up2_ne (by omega)).trans ((up2_ne (by omega)).trans ((upR_ne (by omega)).trans ((up2_ne (by omega)).trans ((up2_ne (by omega)).trans ((up2_ne (by omega)).trans ((up2_ne (by omega)).trans ((up2_ne (by omega)).trans (congrFun hN _)))))))))))))))))))))))))))))))))
        have hW := W_new (h := h) (h' := H) (t0 := t0) hX hR ht0 (by omega) a1_ a2_ a5_ n1_ n3_ hr hw
        have gF : ∀ c, ¬ inW c → H c = h c := fun c q0_ => by unfold inW at q0_; rw [← hHH]; exact ((up2_row (by omega)).trans ((up2_row (by omega)).trans ((up2_row (by omega)).trans ((up2_row (by omega)).trans ((up2_row (by omega)).trans ((up2_row (by omega)).trans ((up2_row (by omega)).trans ((up2_row (by omega)).trans ((up2_row (by omega)).trans ((up2_row (by omega)).trans ((up2_row (by omega)).trans ((up2_row (by omega)).trans ((up2_row (by omega)).trans ((up2_row (by omega)).trans ((up2_row (by omega)).trans ((up2_row (by omega)).trans ((up2_row (by omega)).trans ((up2_row (by omega)).trans ((up2_row (by omega)).trans ((up2_row (by omega)).trans ((up2_row (by omega)).trans ((up2_row (by omega)).trans ((up2_row (by omega)).trans ((up2_row (by omega)).trans ((up2_row (by omega)).trans ((up2_row (by omega)).trans ((upR_rn (by omega)).trans ((up2_row (by omega)).trans ((up2_row (by omega)).trans ((up2_row (by omega)).trans ((up2_row (by omega)).trans ((up2_row (by omega)).trans rfl))))))))))))))))))))))))))))))))
        have g0 : ∀ k : Nat, k ≠ 3 → H 0 k = h 0 k := fun k q0_ => by rw [← hHH]; exact ((up2_ne (by omega)).trans ((up2_ne (by omega)).trans ((up2_ne (by omega)).trans ((up2_ne (by omega)).trans ((up2_ne (by omega)).trans ((up2_ne (by omega)).trans ((up2_ne (by omega)).trans ((up2_ne (by omega)).trans ((up2_ne (by omega)).trans ((up2_ne (by omega)).trans ((up2_ne (by omega)).trans ((up2_ne (by omega)).trans ((up2_ne (by omega)).trans ((up2_ne (by omega)).trans ((up2_ne (by omega)).trans ((up2_ne (by omega)).trans ((up2_ne (by omega)).trans ((up2_ne (by omega)).trans ((up2_ne (by omega)).trans ((up2_ne (by omega)).trans ((up2_ne (by omega)).trans ((up2_ne (by omega)).trans ((up2_ne (by omega)).trans ((up2_ne (by omega)).trans ((up2_ne (by omega)).trans ((up2_ne (by omega)).trans ((upR_ne (by omega)).trans ((up2_ne (by omega)).trans ((up2_ne (by omega)).trans ((up2_ne (by omega)).trans ((up2_ne (by omega)).trans ((up2_ne (by omega)).trans rfl))))))))))))))))))))))))))))))))
        have e03 : H 0 3 = ((h 0 3) + 1) := by rw [← hHH]; exact ((up2_ne (by omega)).trans ((up2_ne (by omega)).trans ((up2_ne (by omega)).trans ((up2_ne (by omega)).trans ((up2_ne (by omega)).trans ((up2_ne (by omega)).trans ((up2_ne (by omega)).trans ((up2_ne (by omega)).trans ((up2_ne (by omega)).trans ((up2_ne (by omega)).trans ((up2_ne (by omega)).trans ((up2_ne (by omega)).trans ((up2_ne (by omega)).trans ((up2_ne (by omega)).trans ((up2_ne (by omega)).trans ((up2_ne (by omega)).trans ((up2_ne (by omega)).trans ((up2_ne (by omega)).trans ((up2_ne (by omega)).trans ((up2_ne (by omega)).trans ((up2_ne (by omega)).trans (up2_hit (by omega) (by omega)))))))))))))))))))))))
        have e10 : H 1 0 = ((h 0 3) + 1) := by rw [← hHH]; exact ((up2_ne (by omega)).trans ((up2_ne (by omega)).trans ((up2_ne (by omega)).trans ((up2_ne (by omega)).trans ((up2_ne (by omega)).trans ((up2_ne (by omega)).trans ((up2_ne (by omega)).trans ((up2_ne (by omega)).trans ((up2_ne (by omega)).trans ((up2_ne (by omega)).trans ((up2_ne (by omega)).trans ((up2_ne (by omega)).trans ((up2_ne (by omega)).trans ((up2_ne (by omega)).trans ((up2_ne (by omega)).trans ((up2_ne (by omega)).trans ((up2_ne (by omega)).trans ((up2_ne (by omega)).trans ((up2_ne (by omega)).trans ((up2_ne (by omega)).trans (up2_hit (by omega) (by omega))))))))))))))))))))))
        have g3 : ∀ k : Nat, k ≠ 4 → H 123 k = h 123 k := fun k q0_ => by rw [← hHH]; exact ((up2_ne (by omega)).trans ((up2_ne (by omega)).trans ((up2_ne (by omega)).trans ((up2_ne (by omega)).trans ((up2_ne (by omega)).trans ((up2_ne (by omega)).trans ((up2_ne (by omega)).trans ((up2_ne (by omega)).trans ((up2_ne (by omega)).trans ((up2_ne (by omega)).trans ((up2_ne (by omega)).trans ((up2_ne (by omega)).trans ((up2_ne (by omega)).trans ((up2_ne (by omega)).trans ((up2_ne (by omega)).trans ((up2_ne (by omega)).trans ((up2_ne (by omega)).trans ((up2_ne (by omega)).trans ((up2_ne (by omega)).trans ((up2_ne (by omega)).trans ((up2_ne (by omega)).trans ((up2_ne (by omega)).trans ((up2_ne (by omega)).trans ((up2_ne (by omega)).trans ((up2_ne (by omega)).trans ((up2_ne (by omega)).trans ((upR_ne (by omega)).trans ((up2_ne (by omega)).trans ((up2_ne (by omega)).trans ((up2_ne (by omega)).trans ((up2_ne (by omega)).trans ((up2_ne (by omega)).trans rfl))))))))))))))))))))))))))))))))
        have e4 : H 123 4 = 0 := by rw [← hHH]; exact (up2_hit (by omega) (by omega))
        exact kE H (H 124) J (IV_s hI gF g0 e03 e10 g3 e4 rfl hW.1 hW.2)
      · refine a_iconst dL_law_333 ⟨by decide, by decide⟩ ?_
        exact a_zret dL_law_334 rfl (by first | exact Or.inl rfl | exact Or.inr rfl | omega) (by exfalso; omega)
    · have t3_1_6 : 0 ≤ a1 ∧ a1 ≤ 5 := t3_1_6
      have c10_2_6 : ¬ a2 < 0 := c10_2_6
      have t18_3_6 : 0 ≤ (a2 / 10) ∧ (a2 / 10) < (N 4) := t18_3_6
      have t29_4_6 : 0 ≤ (a2 % 10) ∧ (a2 % 10) < (N 4) := t29_4_6
      have c43_5_6 : ¬ (a2 / 10) = (a2 % 10) := c43_5_6
      have t63_6_6 : 0 ≤ a3 ∧ a3 ≤ 1439 := t63_6_6
      have t75_7_6 : 1 ≤ a4 ∧ a4 ≤ 600 := t75_7_6
      have c92_9_6 : ((t0 : Nat) : Int) = 12 := c92_9_6
      show Aj γ mL_law d mc ms Post 330 [(0, vK 0), (1, vA 0), (2, vA 123), (3, vI ((i : Nat) : Int))] [vI (-1000000003), vI ((((t0 : Nat) : Int) + 1) - 1)] (mk (up2 (up2 (up2 (up2 (up2 (up2 (upR (up2 (up2 (up2 (up2 (up2 h (8 + 2 * t0) 0 a1) (8 + 2 * t0) 1 (Int.tdiv a2 10)) (8 + 2 * t0) 2 (Int.tmod a2 10)) (8 + 2 * t0) 5 0) (8 + 2 * t0) 6 (-1000000005)) ((8 + 2 * t0) + 1) (fillR 0 4 (h ((8 + 2 * t0) + 1)))) ((8 + 2 * t0) + 1) 0 100) (8 + 2 * t0) 3 a3) (8 + 2 * t0) 4 a4) 1 3 (((t0 : Nat) : Int) + 1)) 0 3 ((h 0 3) + 1)) 1 0 ((h 0 3) + 1)) τ)
      refine a_icmp_eq (tgt := 1668) dL_law_330 (by decide) (fun c330_11 => ?_) (fun c330_11 => ?_)
      · exfalso
        omega
      · refine a_iconst dL_law_333 ⟨by decide, by decide⟩ ?_
        exact a_zret dL_law_334 rfl (by first | exact Or.inl rfl | exact Or.inr rfl | omega) (by exfalso; omega)
    · exfalso
      omega
    · exfalso
      omega
    · have t3_1_6 : 0 ≤ a1 ∧ a1 ≤ 5 := t3_1_6
      have c10_2_6 : ¬ a2 < 0 := c10_2_6
      have t18_3_6 : 0 ≤ (a2 / 10) ∧ (a2 / 10) < (N 4) := t18_3_6
      have t29_4_6 : ¬ (0 ≤ (a2 % 10) ∧ (a2 % 10) < (N 4)) := t29_4_6
      show Aj γ mL_law d mc ms Post 330 [(0, vK 0), (1, vA 0), (2, vA 123), (3, vI ((i : Nat) : Int))] [vI (-1000000001), vI ((((t0 : Nat) : Int) + 1) - 1)] (mk (up2 (up2 (up2 (up2 (up2 (up2 (upR (up2 (up2 (up2 (up2 (up2 h (8 + 2 * t0) 0 a1) (8 + 2 * t0) 1 (Int.tdiv a2 10)) (8 + 2 * t0) 2 (Int.tmod a2 10)) (8 + 2 * t0) 5 0) (8 + 2 * t0) 6 (-1000000005)) ((8 + 2 * t0) + 1) (fillR 0 4 (h ((8 + 2 * t0) + 1)))) ((8 + 2 * t0) + 1) 0 100) (8 + 2 * t0) 3 a3) (8 + 2 * t0) 4 a4) 1 3 (((t0 : Nat) : Int) + 1)) 0 3 ((h 0 3) + 1)) 1 0 ((h 0 3) + 1)) τ)
      refine a_icmp_eq (tgt := 1668) dL_law_330 (by decide) (fun c330_12 => ?_) (fun c330_12 => ?_)
      · exfalso
        omega
      · refine a_iconst dL_law_333 ⟨by decide, by decide⟩ ?_
        exact a_zret dL_law_334 rfl (by first | exact Or.inl rfl | exact Or.inr rfl | omega) (by exfalso; omega)
    · have t3_1_6 : 0 ≤ a1 ∧ a1 ≤ 5 := t3_1_6
      have c10_2_6 : ¬ a2 < 0 := c10_2_6
      have t18_3_6 : ¬ (0 ≤ (a2 / 10) ∧ (a2 / 10) < (N 4)) := t18_3_6
      show Aj γ mL_law d mc ms Post 330 [(0, vK 0), (1, vA 0), (2, vA 123), (3, vI ((i : Nat) : Int))] [vI (-1000000001), vI ((((t0 : Nat) : Int) + 1) - 1)] (mk (up2 (up2 (up2 (up2 (up2 (up2 (upR (up2 (up2 (up2 (up2 (up2 h (8 + 2 * t0) 0 a1) (8 + 2 * t0) 1 (Int.tdiv a2 10)) (8 + 2 * t0) 2 (Int.tmod a2 10)) (8 + 2 * t0) 5 0) (8 + 2 * t0) 6 (-1000000005)) ((8 + 2 * t0) + 1) (fillR 0 4 (h ((8 + 2 * t0) + 1)))) ((8 + 2 * t0) + 1) 0 100) (8 + 2 * t0) 3 a3) (8 + 2 * t0) 4 a4) 1 3 (((t0 : Nat) : Int) + 1)) 0 3 ((h 0 3) + 1)) 1 0 ((h 0 3) + 1)) τ)
      refine a_icmp_eq (tgt := 1668) dL_law_330 (by decide) (fun c330_13 => ?_) (fun c330_13 => ?_)
      · exfalso
        omega
      · refine a_iconst dL_law_333 ⟨by decide, by decide⟩ ?_
        exact a_zret dL_law_334 rfl (by first | exact Or.inl rfl | exact Or.inr rfl | omega) (by exfalso; omega)
    · exfalso
      omega
  · have t13_1_1 : 0 ≤ a1 ∧ a1 ≤ 5 := t13_1_1
    have t25_2_1 : 0 ≤ (Int.tdiv a2 10) ∧ (Int.tdiv a2 10) < (N 4) := t25_2_1
    have t37_3_1 : 0 ≤ (Int.tmod a2 10) ∧ (Int.tmod a2 10) < (N 4) := t37_3_1
    have c47_4_1 : ¬ (Int.tdiv a2 10) = (Int.tmod a2 10) := c47_4_1
    have t63_5_1 : 0 ≤ a3 ∧ a3 ≤ 1439 := t63_5_1
    have t71_6_1 : 1 ≤ a4 ∧ a4 ≤ 600 := t71_6_1
    have c89_7_1 : ¬ ((t0 : Nat) : Int) < 12 := c89_7_1
    show Aj γ mL_law d mc ms Post 306 [(0, vK 0), (1, vA 0), (2, vA 123), (3, vI ((i : Nat) : Int))] [vI (-1000000003)] (mk h τ)
    refine a_aload_n (j := 2) dL_law_306 rfl rfl (Nat.le_of_ble_eq_true rfl) ?_
    refine a_aload_n (j := 0) dL_law_307 rfl rfl (Nat.le_of_ble_eq_true rfl) ?_
    refine a_iload_n (j := 3) dL_law_308 rfl rfl ?_
    refine a_iconst dL_law_309 ⟨by decide, by decide⟩ ?_
    refine a_iadd (z := (((i : Nat) : Int) + 1)) dL_law_310 (w_ok (by omega) (by omega)) ?_
    refine a_sld (i + 1) dL_law_311 (by omega) (by omega) ?_
    rw [ha1]
    refine a_aload_n (j := 0) dL_law_312 rfl rfl (Nat.le_of_ble_eq_true rfl) ?_
    refine a_iload_n (j := 3) dL_law_313 rfl rfl ?_
    refine a_iconst dL_law_314 ⟨by decide, by decide⟩ ?_
    refine a_iadd (z := (((i : Nat) : Int) + 2)) dL_law_315 (w_ok (by omega) (by omega)) ?_
    refine a_sld (i + 2) dL_law_316 (by omega) (by omega) ?_
    rw [ha2]
    refine a_aload_n (j := 0) dL_law_317 rfl rfl (Nat.le_of_ble_eq_true rfl) ?_
    refine a_iload_n (j := 3) dL_law_318 rfl rfl ?_
    refine a_iconst dL_law_319 ⟨by decide, by decide⟩ ?_
    refine a_iadd (z := (((i : Nat) : Int) + 3)) dL_law_320 (w_ok (by omega) (by omega)) ?_
    refine a_sld (i + 3) dL_law_321 (by omega) (by omega) ?_
    rw [ha3]
    refine a_aload_n (j := 0) dL_law_322 rfl rfl (Nat.le_of_ble_eq_true rfl) ?_
    refine a_iload_n (j := 3) dL_law_323 rfl rfl ?_
    refine a_iconst dL_law_324 ⟨by decide, by decide⟩ ?_
    refine a_iadd (z := (((i : Nat) : Int) + 4)) dL_law_325 (w_ok (by omega) (by omega)) ?_
    refine a_sld (i + 4) dL_law_326 (by omega) (by omega) ?_
    rw [ha4]
    refine b_callV (d' := d - 1) (mc' := 0) (ms' := 0) (mc1 := mc) (ms1 := ms) (st := [vI (-1000000003)]) (b := 123) [vI a1, vI a2, vI a3, vI a4] dL_law_327 mwX9_train lkL_26 (by decide) rfl rc_X9 rfl (Nat.le_of_ble_eq_true rfl) (by omega) (by omega) (by omega) (c_X9_train (v1 := (N 4)) (v2 := ((t0 : Nat) : Int)) (by omega)  (congrFun hN _) ((congrFun hN 5).trans ht0) (show 0 ≤ (N 4) ∧ (N 4) ≤ 6 by omega) (show 0 ≤ ((t0 : Nat) : Int) ∧ ((t0 : Nat) : Int) ≤ 12 by omega) (fun t3_1_14 c10_2_14 => ?_) (fun t3_1_14 c10_2_14 t18_3_14 t29_4_14 c43_5_14 => ?_) (fun t3_1_14 c10_2_14 t18_3_14 t29_4_14 c43_5_14 t63_6_14 t75_7_14 c92_9_14 => ?_) (fun t3_1_14 c10_2_14 t18_3_14 t29_4_14 c43_5_14 t63_6_14 t75_7_14 c92_9_14 => ?_) (fun t3_1_14 c10_2_14 t18_3_14 t29_4_14 c43_5_14 t63_6_14 t75_7_14 => ?_) (fun t3_1_14 c10_2_14 t18_3_14 t29_4_14 c43_5_14 t63_6_14 => ?_) (fun t3_1_14 c10_2_14 t18_3_14 t29_4_14 => ?_) (fun t3_1_14 c10_2_14 t18_3_14 => ?_) (fun t3_1_14 => ?_))
    · have t3_1_14 : 0 ≤ a1 ∧ a1 ≤ 5 := t3_1_14
      have c10_2_14 : a2 < 0 := c10_2_14
      show Aj γ mL_law d mc ms Post 330 [(0, vK 0), (1, vA 0), (2, vA 123), (3, vI ((i : Nat) : Int))] [vI (-1000000001), vI (-1000000003)] (mk h τ)
      refine a_icmp_eq (tgt := 1668) dL_law_330 (by decide) (fun c => absurd c (by decide)) (fun _ => ?_)
      refine a_iconst dL_law_333 ⟨by decide, by decide⟩ ?_
      exact a_zret dL_law_334 rfl (by first | exact Or.inl rfl | exact Or.inr rfl | omega) (by exfalso; omega)
    · have t3_1_14 : 0 ≤ a1 ∧ a1 ≤ 5 := t3_1_14
      have c10_2_14 : ¬ a2 < 0 := c10_2_14
      have t18_3_14 : 0 ≤ (a2 / 10) ∧ (a2 / 10) < (N 4) := t18_3_14
      have t29_4_14 : 0 ≤ (a2 % 10) ∧ (a2 % 10) < (N 4) := t29_4_14
      have c43_5_14 : (a2 / 10) = (a2 % 10) := c43_5_14
      show Aj γ mL_law d mc ms Post 330 [(0, vK 0), (1, vA 0), (2, vA 123), (3, vI ((i : Nat) : Int))] [vI (-1000000001), vI (-1000000003)] (mk h τ)
      refine a_icmp_eq (tgt := 1668) dL_law_330 (by decide) (fun c => absurd c (by decide)) (fun _ => ?_)
      refine a_iconst dL_law_333 ⟨by decide, by decide⟩ ?_
      exact a_zret dL_law_334 rfl (by first | exact Or.inl rfl | exact Or.inr rfl | omega) (by exfalso; omega)
    · have t3_1_14 : 0 ≤ a1 ∧ a1 ≤ 5 := t3_1_14
      have c10_2_14 : ¬ a2 < 0 := c10_2_14
      have t18_3_14 : 0 ≤ (a2 / 10) ∧ (a2 / 10) < (N 4) := t18_3_14
      have t29_4_14 : 0 ≤ (a2 % 10) ∧ (a2 % 10) < (N 4) := t29_4_14
      have c43_5_14 : ¬ (a2 / 10) = (a2 % 10) := c43_5_14
      have t63_6_14 : 0 ≤ a3 ∧ a3 ≤ 1439 := t63_6_14
      have t75_7_14 : 1 ≤ a4 ∧ a4 ≤ 600 := t75_7_14
      have c92_9_14 : ¬ ((t0 : Nat) : Int) = 12 := c92_9_14
      show Aj γ mL_law d mc ms Post 330 [(0, vK 0), (1, vA 0), (2, vA 123), (3, vI ((i : Nat) : Int))] [vI ((t0 : Nat) : Int), vI (-1000000003)] (mk (up2 (up2 (up2 (up2 (up2 (up2 (up2 (up2 (up2 (up2 (up2 (up2 (up2 (up2 (up2 (up2 (up2 (up2 (up2 (up2 h 124 (Int.toNat ((15 + (11 * ((t0 : Nat) : Int))) + 0)) 0) 124 (Int.toNat ((15 + (11 * ((t0 : Nat) : Int))) + 1)) 0) 124 (Int.toNat ((15 + (11 * ((t0 : Nat) : Int))) + 2)) 0) 124 (Int.toNat ((15 + (11 * ((t0 : Nat) : Int))) + 3)) 0) 124 (Int.toNat ((15 + (11 * ((t0 : Nat) : Int))) + 4)) 0) 124 (Int.toNat ((15 + (11 * ((t0 : Nat) : Int))) + 5)) 0) 124 (Int.toNat ((15 + (11 * ((t0 : Nat) : Int))) + 6)) 0) 124 (Int.toNat ((15 + (11 * ((t0 : Nat) : Int))) + 7)) 0) 124 (Int.toNat ((15 + (11 * ((t0 : Nat) : Int))) + 8)) 0) 124 (Int.toNat ((15 + (11 * ((t0 : Nat) : Int))) + 9)) 0) 124 (Int.toNat ((15 + (11 * ((t0 : Nat) : Int))) + 10)) 0) 124 5 (((t0 : Nat) : Int) + 1)) 124 (Int.toNat (15 + (11 * ((t0 : Nat) : Int)))) a1) 124 (Int.toNat ((15 + (11 * ((t0 : Nat) : Int))) + 1)) (a2 / 10)) 124 (Int.toNat ((15 + (11 * ((t0 : Nat) : Int))) + 2)) (a2 % 10)) 124 (Int.toNat ((15 + (11 * ((t0 : Nat) : Int))) + 3)) a3) 124 (Int.toNat ((15 + (11 * ((t0 : Nat) : Int))) + 4)) a4) 124 (Int.toNat ((15 + (11 * ((t0 : Nat) : Int))) + 6)) (-1)) 124 (Int.toNat ((15 + (11 * ((t0 : Nat) : Int))) + 7)) 100) 123 4 0) τ)
      refine a_icmp_eq (tgt := 1668) dL_law_330 (by decide) (fun c330_16 => ?_) (fun c330_16 => ?_)
      · exfalso
        omega
      · refine a_iconst dL_law_333 ⟨by decide, by decide⟩ ?_
        exact a_zret dL_law_334 rfl (by first | exact Or.inl rfl | exact Or.inr rfl | omega) (by exfalso; omega)
    · have t3_1_14 : 0 ≤ a1 ∧ a1 ≤ 5 := t3_1_14
      have c10_2_14 : ¬ a2 < 0 := c10_2_14
      have t18_3_14 : 0 ≤ (a2 / 10) ∧ (a2 / 10) < (N 4) := t18_3_14
      have t29_4_14 : 0 ≤ (a2 % 10) ∧ (a2 % 10) < (N 4) := t29_4_14
      have c43_5_14 : ¬ (a2 / 10) = (a2 % 10) := c43_5_14
      have t63_6_14 : 0 ≤ a3 ∧ a3 ≤ 1439 := t63_6_14
      have t75_7_14 : 1 ≤ a4 ∧ a4 ≤ 600 := t75_7_14
      have c92_9_14 : ((t0 : Nat) : Int) = 12 := c92_9_14
      show Aj γ mL_law d mc ms Post 330 [(0, vK 0), (1, vA 0), (2, vA 123), (3, vI ((i : Nat) : Int))] [vI (-1000000003), vI (-1000000003)] (mk h τ)
      refine a_icmp_eq (tgt := 1668) dL_law_330 (by decide) (fun _ => ?_) (fun c => absurd c (by decide))
      exact kE h N J (IV_up (by omega) hI)
    · exfalso
      omega
    · exfalso
      omega
    · have t3_1_14 : 0 ≤ a1 ∧ a1 ≤ 5 := t3_1_14
      have c10_2_14 : ¬ a2 < 0 := c10_2_14
      have t18_3_14 : 0 ≤ (a2 / 10) ∧ (a2 / 10) < (N 4) := t18_3_14
      have t29_4_14 : ¬ (0 ≤ (a2 % 10) ∧ (a2 % 10) < (N 4)) := t29_4_14
      show Aj γ mL_law d mc ms Post 330 [(0, vK 0), (1, vA 0), (2, vA 123), (3, vI ((i : Nat) : Int))] [vI (-1000000001), vI (-1000000003)] (mk h τ)
      refine a_icmp_eq (tgt := 1668) dL_law_330 (by decide) (fun c => absurd c (by decide)) (fun _ => ?_)
      refine a_iconst dL_law_333 ⟨by decide, by decide⟩ ?_
      exact a_zret dL_law_334 rfl (by first | exact Or.inl rfl | exact Or.inr rfl | omega) (by exfalso; omega)
    · have t3_1_14 : 0 ≤ a1 ∧ a1 ≤ 5 := t3_1_14
      have c10_2_14 : ¬ a2 < 0 := c10_2_14
      have t18_3_14 : ¬ (0 ≤ (a2 / 10) ∧ (a2 / 10) < (N 4)) := t18_3_14
      show Aj γ mL_law d mc ms Post 330 [(0, vK 0), (1, vA 0), (2, vA 123), (3, vI ((i : Nat) : Int))] [vI (-1000000001), vI (-1000000003)] (mk h τ)
      refine a_icmp_eq (tgt := 1668) dL_law_330 (by decide) (fun c => absurd c (by decide)) (fun _ => ?_)
      refine a_iconst dL_law_333 ⟨by decide, by decide⟩ ?_
      exact a_zret dL_law_334 rfl (by first | exact Or.inl rfl | exact Or.inr rfl | omega) (by exfalso; omega)
    · exfalso
      omega
  · have t13_1_1 : 0 ≤ a1 ∧ a1 ≤ 5 := t13_1_1
    have t25_2_1 : 0 ≤ (Int.tdiv a2 10) ∧ (Int.tdiv a2 10) < (N 4) := t25_2_1
    have t37_3_1 : 0 ≤ (Int.tmod a2 10) ∧ (Int.tmod a2 10) < (N 4) := t37_3_1
    have c47_4_1 : ¬ (Int.tdiv a2 10) = (Int.tmod a2 10) := c47_4_1
    have t63_5_1 : 0 ≤ a3 ∧ a3 ≤ 1439 := t63_5_1
    have t71_6_1 : ¬ (1 ≤ a4 ∧ a4 ≤ 600) := t71_6_1
    show Aj γ mL_law d mc ms Post 306 [(0, vK 0), (1, vA 0), (2, vA 123), (3, vI ((i : Nat) : Int))] [vI (-1000000001)] (mk h τ)
    refine a_aload_n (j := 2) dL_law_306 rfl rfl (Nat.le_of_ble_eq_true rfl) ?_
    refine a_aload_n (j := 0) dL_law_307 rfl rfl (Nat.le_of_ble_eq_true rfl) ?_
    refine a_iload_n (j := 3) dL_law_308 rfl rfl ?_
    refine a_iconst dL_law_309 ⟨by decide, by decide⟩ ?_
    refine a_iadd (z := (((i : Nat) : Int) + 1)) dL_law_310 (w_ok (by omega) (by omega)) ?_
    refine a_sld (i + 1) dL_law_311 (by omega) (by omega) ?_
    rw [ha1]
    refine a_aload_n (j := 0) dL_law_312 rfl rfl (Nat.le_of_ble_eq_true rfl) ?_
    refine a_iload_n (j := 3) dL_law_313 rfl rfl ?_
    refine a_iconst dL_law_314 ⟨by decide, by decide⟩ ?_
    refine a_iadd (z := (((i : Nat) : Int) + 2)) dL_law_315 (w_ok (by omega) (by omega)) ?_
    refine a_sld (i + 2) dL_law_316 (by omega) (by omega) ?_
    rw [ha2]
    refine a_aload_n (j := 0) dL_law_317 rfl rfl (Nat.le_of_ble_eq_true rfl) ?_
    refine a_iload_n (j := 3) dL_law_318 rfl rfl ?_
    refine a_iconst dL_law_319 ⟨by decide, by decide⟩ ?_
    refine a_iadd (z := (((i : Nat) : Int) + 3)) dL_law_320 (w_ok (by omega) (by omega)) ?_
    refine a_sld (i + 3) dL_law_321 (by omega) (by omega) ?_
    rw [ha3]
    refine a_aload_n (j := 0) dL_law_322 rfl rfl (Nat.le_of_ble_eq_true rfl) ?_
    refine a_iload_n (j := 3) dL_law_323 rfl rfl ?_
    refine a_iconst dL_law_324 ⟨by decide, by decide⟩ ?_
    refine a_iadd (z := (((i : Nat) : Int) + 4)) dL_law_325 (w_ok (by omega) (by omega)) ?_
    refine a_sld (i + 4) dL_law_326 (by omega) (by omega) ?_
    rw [ha4]
    refine b_callV (d' := d - 1) (mc' := 0) (ms' := 0) (mc1 := mc) (ms1 := ms) (st := [vI (-1000000001)]) (b := 123) [vI a1, vI a2, vI a3, vI a4] dL_law_327 mwX9_train lkL_26 (by decide) rfl rc_X9 rfl (Nat.le_of_ble_eq_true rfl) (by omega) (by omega) (by omega) (c_X9_train (v1 := (N 4)) (v2 := ((t0 : Nat) : Int)) (by omega)  (congrFun hN _) ((congrFun hN 5).trans ht0) (show 0 ≤ (N 4) ∧ (N 4) ≤ 6 by omega) (show 0 ≤ ((t0 : Nat) : Int) ∧ ((t0 : Nat) : Int) ≤ 12 by omega) (fun t3_1_17 c10_2_17 => ?_) (fun t3_1_17 c10_2_17 t18_3_17 t29_4_17 c43_5_17 => ?_) (fun t3_1_17 c10_2_17 t18_3_17 t29_4_17 c43_5_17 t63_6_17 t75_7_17 c92_9_17 => ?_) (fun t3_1_17 c10_2_17 t18_3_17 t29_4_17 c43_5_17 t63_6_17 t75_7_17 c92_9_17 => ?_) (fun t3_1_17 c10_2_17 t18_3_17 t29_4_17 c43_5_17 t63_6_17 t75_7_17 => ?_) (fun t3_1_17 c10_2_17 t18_3_17 t29_4_17 c43_5_17 t63_6_17 => ?_) (fun t3_1_17 c10_2_17 t18_3_17 t29_4_17 => ?_) (fun t3_1_17 c10_2_17 t18_3_17 => ?_) (fun t3_1_17 => ?_))
    · have t3_1_17 : 0 ≤ a1 ∧ a1 ≤ 5 := t3_1_17
      have c10_2_17 : a2 < 0 := c10_2_17
      show Aj γ mL_law d mc ms Post 330 [(0, vK 0), (1, vA 0), (2, vA 123), (3, vI ((i : Nat) : Int))] [vI (-1000000001), vI (-1000000001)] (mk h τ)
      refine a_icmp_eq (tgt := 1668) dL_law_330 (by decide) (fun _ => ?_) (fun c => absurd c (by decide))
      exact kE h N J (IV_up (by omega) hI)
    · have t3_1_17 : 0 ≤ a1 ∧ a1 ≤ 5 := t3_1_17
      have c10_2_17 : ¬ a2 < 0 := c10_2_17
      have t18_3_17 : 0 ≤ (a2 / 10) ∧ (a2 / 10) < (N 4) := t18_3_17
      have t29_4_17 : 0 ≤ (a2 % 10) ∧ (a2 % 10) < (N 4) := t29_4_17
      have c43_5_17 : (a2 / 10) = (a2 % 10) := c43_5_17
      show Aj γ mL_law d mc ms Post 330 [(0, vK 0), (1, vA 0), (2, vA 123), (3, vI ((i : Nat) : Int))] [vI (-1000000001), vI (-1000000001)] (mk h τ)
      refine a_icmp_eq (tgt := 1668) dL_law_330 (by decide) (fun _ => ?_) (fun c => absurd c (by decide))
      exact kE h N J (IV_up (by omega) hI)
    · exfalso
      omega
    · exfalso
      omega
    · have t3_1_17 : 0 ≤ a1 ∧ a1 ≤ 5 := t3_1_17
      have c10_2_17 : ¬ a2 < 0 := c10_2_17
      have t18_3_17 : 0 ≤ (a2 / 10) ∧ (a2 / 10) < (N 4) := t18_3_17
      have t29_4_17 : 0 ≤ (a2 % 10) ∧ (a2 % 10) < (N 4) := t29_4_17
      have c43_5_17 : ¬ (a2 / 10) = (a2 % 10) := c43_5_17
      have t63_6_17 : 0 ≤ a3 ∧ a3 ≤ 1439 := t63_6_17
      have t75_7_17 : ¬ (1 ≤ a4 ∧ a4 ≤ 600) := t75_7_17
      show Aj γ mL_law d mc ms Post 330 [(0, vK 0), (1, vA 0), (2, vA 123), (3, vI ((i : Nat) : Int))] [vI (-1000000001), vI (-1000000001)] (mk h τ)
      refine a_icmp_eq (tgt := 1668) dL_law_330 (by decide) (fun _ => ?_) (fun c => absurd c (by decide))
      exact kE h N J (IV_up (by omega) hI)
    · exfalso
      omega
    · have t3_1_17 : 0 ≤ a1 ∧ a1 ≤ 5 := t3_1_17
      have c10_2_17 : ¬ a2 < 0 := c10_2_17
      have t18_3_17 : 0 ≤ (a2 / 10) ∧ (a2 / 10) < (N 4) := t18_3_17
      have t29_4_17 : ¬ (0 ≤ (a2 % 10) ∧ (a2 % 10) < (N 4)) := t29_4_17
      show Aj γ mL_law d mc ms Post 330 [(0, vK 0), (1, vA 0), (2, vA 123), (3, vI ((i : Nat) : Int))] [vI (-1000000001), vI (-1000000001)] (mk h τ)
      refine a_icmp_eq (tgt := 1668) dL_law_330 (by decide) (fun _ => ?_) (fun c => absurd c (by decide))
      exact kE h N J (IV_up (by omega) hI)
    · have t3_1_17 : 0 ≤ a1 ∧ a1 ≤ 5 := t3_1_17
      have c10_2_17 : ¬ a2 < 0 := c10_2_17
      have t18_3_17 : ¬ (0 ≤ (a2 / 10) ∧ (a2 / 10) < (N 4)) := t18_3_17
      show Aj γ mL_law d mc ms Post 330 [(0, vK 0), (1, vA 0), (2, vA 123), (3, vI ((i : Nat) : Int))] [vI (-1000000001), vI (-1000000001)] (mk h τ)
      refine a_icmp_eq (tgt := 1668) dL_law_330 (by decide) (fun _ => ?_) (fun c => absurd c (by decide))
      exact kE h N J (IV_up (by omega) hI)
    · exfalso
      omega
  · have t13_1_1 : 0 ≤ a1 ∧ a1 ≤ 5 := t13_1_1
    have t25_2_1 : 0 ≤ (Int.tdiv a2 10) ∧ (Int.tdiv a2 10) < (N 4) := t25_2_1
    have t37_3_1 : 0 ≤ (Int.tmod a2 10) ∧ (Int.tmod a2 10) < (N 4) := t37_3_1
    have c47_4_1 : ¬ (Int.tdiv a2 10) = (Int.tmod a2 10) := c47_4_1
    have t63_5_1 : ¬ (0 ≤ a3 ∧ a3 ≤ 1439) := t63_5_1
    show Aj γ mL_law d mc ms Post 306 [(0, vK 0), (1, vA 0), (2, vA 123), (3, vI ((i : Nat) : Int))] [vI (-1000000001)] (mk h τ)
    refine a_aload_n (j := 2) dL_law_306 rfl rfl (Nat.le_of_ble_eq_true rfl) ?_
    refine a_aload_n (j := 0) dL_law_307 rfl rfl (Nat.le_of_ble_eq_true rfl) ?_
    refine a_iload_n (j := 3) dL_law_308 rfl rfl ?_
    refine a_iconst dL_law_309 ⟨by decide, by decide⟩ ?_
    refine a_iadd (z := (((i : Nat) : Int) + 1)) dL_law_310 (w_ok (by omega) (by omega)) ?_
    refine a_sld (i + 1) dL_law_311 (by omega) (by omega) ?_
    rw [ha1]
    refine a_aload_n (j := 0) dL_law_312 rfl rfl (Nat.le_of_ble_eq_true rfl) ?_
    refine a_iload_n (j := 3) dL_law_313 rfl rfl ?_
    refine a_iconst dL_law_314 ⟨by decide, by decide⟩ ?_
    refine a_iadd (z := (((i : Nat) : Int) + 2)) dL_law_315 (w_ok (by omega) (by omega)) ?_
    refine a_sld (i + 2) dL_law_316 (by omega) (by omega) ?_
    rw [ha2]
    refine a_aload_n (j := 0) dL_law_317 rfl rfl (Nat.le_of_ble_eq_true rfl) ?_
    refine a_iload_n (j := 3) dL_law_318 rfl rfl ?_
    refine a_iconst dL_law_319 ⟨by decide, by decide⟩ ?_
    refine a_iadd (z := (((i : Nat) : Int) + 3)) dL_law_320 (w_ok (by omega) (by omega)) ?_
    refine a_sld (i + 3) dL_law_321 (by omega) (by omega) ?_
    rw [ha3]
    refine a_aload_n (j := 0) dL_law_322 rfl rfl (Nat.le_of_ble_eq_true rfl) ?_
    refine a_iload_n (j := 3) dL_law_323 rfl rfl ?_
    refine a_iconst dL_law_324 ⟨by decide, by decide⟩ ?_
    refine a_iadd (z := (((i : Nat) : Int) + 4)) dL_law_325 (w_ok (by omega) (by omega)) ?_
    refine a_sld (i + 4) dL_law_326 (by omega) (by omega) ?_
    rw [ha4]
    refine b_callV (d' := d - 1) (mc' := 0) (ms' := 0) (mc1 := mc) (ms1 := ms) (st := [vI (-1000000001)]) (b := 123) [vI a1, vI a2, vI a3, vI a4] dL_law_327 mwX9_train lkL_26 (by decide) rfl rc_X9 rfl (Nat.le_of_ble_eq_true rfl) (by omega) (by omega) (by omega) (c_X9_train (v1 := (N 4)) (v2 := ((t0 : Nat) : Int)) (by omega)  (congrFun hN _) ((congrFun hN 5).trans ht0) (show 0 ≤ (N 4) ∧ (N 4) ≤ 6 by omega) (show 0 ≤ ((t0 : Nat) : Int) ∧ ((t0 : Nat) : Int) ≤ 12 by omega) (fun t3_1_19 c10_2_19 => ?_) (fun t3_1_19 c10_2_19 t18_3_19 t29_4_19 c43_5_19 => ?_) (fun t3_1_19 c10_2_19 t18_3_19 t29_4_19 c43_5_19 t63_6_19 t75_7_19 c92_9_19 => ?_) (fun t3_1_19 c10_2_19 t18_3_19 t29_4_19 c43_5_19 t63_6_19 t75_7_19 c92_9_19 => ?_) (fun t3_1_19 c10_2_19 t18_3_19 t29_4_19 c43_5_19 t63_6_19 t75_7_19 => ?_) (fun t3_1_19 c10_2_19 t18_3_19 t29_4_19 c43_5_19 t63_6_19 => ?_) (fun t3_1_19 c10_2_19 t18_3_19 t29_4_19 => ?_) (fun t3_1_19 c10_2_19 t18_3_19 => ?_) (fun t3_1_19 => ?_))
    · have t3_1_19 : 0 ≤ a1 ∧ a1 ≤ 5 := t3_1_19
      have c10_2_19 : a2 < 0 := c10_2_19
      show Aj γ mL_law d mc ms Post 330 [(0, vK 0), (1, vA 0), (2, vA 123), (3, vI ((i : Nat) : Int))] [vI (-1000000001), vI (-1000000001)] (mk h τ)
      refine a_icmp_eq (tgt := 1668) dL_law_330 (by decide) (fun _ => ?_) (fun c => absurd c (by decide))
      exact kE h N J (IV_up (by omega) hI)
    · have t3_1_19 : 0 ≤ a1 ∧ a1 ≤ 5 := t3_1_19
      have c10_2_19 : ¬ a2 < 0 := c10_2_19
      have t18_3_19 : 0 ≤ (a2 / 10) ∧ (a2 / 10) < (N 4) := t18_3_19
      have t29_4_19 : 0 ≤ (a2 % 10) ∧ (a2 % 10) < (N 4) := t29_4_19
      have c43_5_19 : (a2 / 10) = (a2 % 10) := c43_5_19
      show Aj γ mL_law d mc ms Post 330 [(0, vK 0), (1, vA 0), (2, vA 123), (3, vI ((i : Nat) : Int))] [vI (-1000000001), vI (-1000000001)] (mk h τ)
      refine a_icmp_eq (tgt := 1668) dL_law_330 (by decide) (fun _ => ?_) (fun c => absurd c (by decide))
      exact kE h N J (IV_up (by omega) hI)
    · exfalso
      omega
    · exfalso
      omega
    · exfalso
      omega
    · have t3_1_19 : 0 ≤ a1 ∧ a1 ≤ 5 := t3_1_19
      have c10_2_19 : ¬ a2 < 0 := c10_2_19
      have t18_3_19 : 0 ≤ (a2 / 10) ∧ (a2 / 10) < (N 4) := t18_3_19
      have t29_4_19 : 0 ≤ (a2 % 10) ∧ (a2 % 10) < (N 4) := t29_4_19
      have c43_5_19 : ¬ (a2 / 10) = (a2 % 10) := c43_5_19
      have t63_6_19 : ¬ (0 ≤ a3 ∧ a3 ≤ 1439) := t63_6_19
      show Aj γ mL_law d mc ms Post 330 [(0, vK 0), (1, vA 0), (2, vA 123), (3, vI ((i : Nat) : Int))] [vI (-1000000001), vI (-1000000001)] (mk h τ)
      refine a_icmp_eq (tgt := 1668) dL_law_330 (by decide) (fun _ => ?_) (fun c => absurd c (by decide))
      exact kE h N J (IV_up (by omega) hI)
    · have t3_1_19 : 0 ≤ a1 ∧ a1 ≤ 5 := t3_1_19
      have c10_2_19 : ¬ a2 < 0 := c10_2_19
      have t18_3_19 : 0 ≤ (a2 / 10) ∧ (a2 / 10) < (N 4) := t18_3_19
      have t29_4_19 : ¬ (0 ≤ (a2 % 10) ∧ (a2 % 10) < (N 4)) := t29_4_19
      show Aj γ mL_law d mc ms Post 330 [(0, vK 0), (1, vA 0), (2, vA 123), (3, vI ((i : Nat) : Int))] [vI (-1000000001), vI (-1000000001)] (mk h τ)
      refine a_icmp_eq (tgt := 1668) dL_law_330 (by decide) (fun _ => ?_) (fun c => absurd c (by decide))
      exact kE h N J (IV_up (by omega) hI)
    · have t3_1_19 : 0 ≤ a1 ∧ a1 ≤ 5 := t3_1_19
      have c10_2_19 : ¬ a2 < 0 := c10_2_19
      have t18_3_19 : ¬ (0 ≤ (a2 / 10) ∧ (a2 / 10) < (N 4)) := t18_3_19
      show Aj γ mL_law d mc ms Post 330 [(0, vK 0), (1, vA 0), (2, vA 123), (3, vI ((i : Nat) : Int))] [vI (-1000000001), vI (-1000000001)] (mk h τ)
      refine a_icmp_eq (tgt := 1668) dL_law_330 (by decide) (fun _ => ?_) (fun c => absurd c (by decide))
      exact kE h N J (IV_up (by omega) hI)
    · exfalso
      omega
  · have t13_1_1 : 0 ≤ a1 ∧ a1 ≤ 5 := t13_1_1
    have t25_2_1 : 0 ≤ (Int.tdiv a2 10) ∧ (Int.tdiv a2 10) < (N 4) := t25_2_1
    have t37_3_1 : ¬ (0 ≤ (Int.tmod a2 10) ∧ (Int.tmod a2 10) < (N 4)) := t37_3_1
    show Aj γ mL_law d mc ms Post 306 [(0, vK 0), (1, vA 0), (2, vA 123), (3, vI ((i : Nat) : Int))] [vI (-1000000001)] (mk h τ)
    refine a_aload_n (j := 2) dL_law_306 rfl rfl (Nat.le_of_ble_eq_true rfl) ?_
    refine a_aload_n (j := 0) dL_law_307 rfl rfl (Nat.le_of_ble_eq_true rfl) ?_
    refine a_iload_n (j := 3) dL_law_308 rfl rfl ?_
    refine a_iconst dL_law_309 ⟨by decide, by decide⟩ ?_
    refine a_iadd (z := (((i : Nat) : Int) + 1)) dL_law_310 (w_ok (by omega) (by omega)) ?_
    refine a_sld (i + 1) dL_law_311 (by omega) (by omega) ?_
    rw [ha1]
    refine a_aload_n (j := 0) dL_law_312 rfl rfl (Nat.le_of_ble_eq_true rfl) ?_
    refine a_iload_n (j := 3) dL_law_313 rfl rfl ?_
    refine a_iconst dL_law_314 ⟨by decide, by decide⟩ ?_
    refine a_iadd (z := (((i : Nat) : Int) + 2)) dL_law_315 (w_ok (by omega) (by omega)) ?_
    refine a_sld (i + 2) dL_law_316 (by omega) (by omega) ?_
    rw [ha2]
    refine a_aload_n (j := 0) dL_law_317 rfl rfl (Nat.le_of_ble_eq_true rfl) ?_
    refine a_iload_n (j := 3) dL_law_318 rfl rfl ?_
    refine a_iconst dL_law_319 ⟨by decide, by decide⟩ ?_
    refine a_iadd (z := (((i : Nat) : Int) + 3)) dL_law_320 (w_ok (by omega) (by omega)) ?_
    refine a_sld (i + 3) dL_law_321 (by omega) (by omega) ?_
    rw [ha3]
    refine a_aload_n (j := 0) dL_law_322 rfl rfl (Nat.le_of_ble_eq_true rfl) ?_
    refine a_iload_n (j := 3) dL_law_323 rfl rfl ?_
    refine a_iconst dL_law_324 ⟨by decide, by decide⟩ ?_
    refine a_iadd (z := (((i : Nat) : Int) + 4)) dL_law_325 (w_ok (by omega) (by omega)) ?_
    refine a_sld (i + 4) dL_law_326 (by omega) (by omega) ?_
    rw [ha4]
    refine b_callV (d' := d - 1) (mc' := 0) (ms' := 0) (mc1 := mc) (ms1 := ms) (st := [vI (-1000000001)]) (b := 123) [vI a1, vI a2, vI a3, vI a4] dL_law_327 mwX9_train lkL_26 (by decide) rfl rc_X9 rfl (Nat.le_of_ble_eq_true rfl) (by omega) (by omega) (by omega) (c_X9_train (v1 := (N 4)) (v2 := ((t0 : Nat) : Int)) (by omega)  (congrFun hN _) ((congrFun hN 5).trans ht0) (show 0 ≤ (N 4) ∧ (N 4) ≤ 6 by omega) (show 0 ≤ ((t0 : Nat) : Int) ∧ ((t0 : Nat) : Int) ≤ 12 by omega) (fun t3_1_21 c10_2_21 => ?_) (fun t3_1_21 c10_2_21 t18_3_21 t29_4_21 c43_5_21 => ?_) (fun t3_1_21 c10_2_21 t18_3_21 t29_4_21 c43_5_21 t63_6_21 t75_7_21 c92_9_21 => ?_) (fun t3_1_21 c10_2_21 t18_3_21 t29_4_21 c43_5_21 t63_6_21 t75_7_21 c92_9_21 => ?_) (fun t3_1_21 c10_2_21 t18_3_21 t29_4_21 c43_5_21 t63_6_21 t75_7_21 => ?_) (fun t3_1_21 c10_2_21 t18_3_21 t29_4_21 c43_5_21 t63_6_21 => ?_) (fun t3_1_21 c10_2_21 t18_3_21 t29_4_21 => ?_) (fun t3_1_21 c10_2_21 t18_3_21 => ?_) (fun t3_1_21 => ?_))
    · have t3_1_21 : 0 ≤ a1 ∧ a1 ≤ 5 := t3_1_21
      have c10_2_21 : a2 < 0 := c10_2_21
      show Aj γ mL_law d mc ms Post 330 [(0, vK 0), (1, vA 0), (2, vA 123), (3, vI ((i : Nat) : Int))] [vI (-1000000001), vI (-1000000001)] (mk h τ)
      refine a_icmp_eq (tgt := 1668) dL_law_330 (by decide) (fun _ => ?_) (fun c => absurd c (by decide))
      exact kE h N J (IV_up (by omega) hI)
    · have t3_1_21 : 0 ≤ a1 ∧ a1 ≤ 5 := t3_1_21
      have c10_2_21 : ¬ a2 < 0 := c10_2_21
      have t18_3_21 : 0 ≤ (a2 / 10) ∧ (a2 / 10) < (N 4) := t18_3_21
      have t29_4_21 : 0 ≤ (a2 % 10) ∧ (a2 % 10) < (N 4) := t29_4_21
      have c43_5_21 : (a2 / 10) = (a2 % 10) := c43_5_21
      show Aj γ mL_law d mc ms Post 330 [(0, vK 0), (1, vA 0), (2, vA 123), (3, vI ((i : Nat) : Int))] [vI (-1000000001), vI (-1000000001)] (mk h τ)
      refine a_icmp_eq (tgt := 1668) dL_law_330 (by decide) (fun _ => ?_) (fun c => absurd c (by decide))
      exact kE h N J (IV_up (by omega) hI)
    · have t3_1_21 : 0 ≤ a1 ∧ a1 ≤ 5 := t3_1_21
      have c10_2_21 : ¬ a2 < 0 := c10_2_21
      have t18_3_21 : 0 ≤ (a2 / 10) ∧ (a2 / 10) < (N 4) := t18_3_21
      have t29_4_21 : 0 ≤ (a2 % 10) ∧ (a2 % 10) < (N 4) := t29_4_21
      have c43_5_21 : ¬ (a2 / 10) = (a2 % 10) := c43_5_21
      have t63_6_21 : 0 ≤ a3 ∧ a3 ≤ 1439 := t63_6_21
      have t75_7_21 : 1 ≤ a4 ∧ a4 ≤ 600 := t75_7_21
      have c92_9_21 : ¬ ((t0 : Nat) : Int) = 12 := c92_9_21
      show Aj γ mL_law d mc ms Post 330 [(0, vK 0), (1, vA 0), (2, vA 123), (3, vI ((i : Nat) : Int))] [vI ((t0 : Nat) : Int), vI (-1000000001)] (mk (up2 (up2 (up2 (up2 (up2 (up2 (up2 (up2 (up2 (up2 (up2 (up2 (up2 (up2 (up2 (up2 (up2 (up2 (up2 (up2 h 124 (Int.toNat ((15 + (11 * ((t0 : Nat) : Int))) + 0)) 0) 124 (Int.toNat ((15 + (11 * ((t0 : Nat) : Int))) + 1)) 0) 124 (Int.toNat ((15 + (11 * ((t0 : Nat) : Int))) + 2)) 0) 124 (Int.toNat ((15 + (11 * ((t0 : Nat) : Int))) + 3)) 0) 124 (Int.toNat ((15 + (11 * ((t0 : Nat) : Int))) + 4)) 0) 124 (Int.toNat ((15 + (11 * ((t0 : Nat) : Int))) + 5)) 0) 124 (Int.toNat ((15 + (11 * ((t0 : Nat) : Int))) + 6)) 0) 124 (Int.toNat ((15 + (11 * ((t0 : Nat) : Int))) + 7)) 0) 124 (Int.toNat ((15 + (11 * ((t0 : Nat) : Int))) + 8)) 0) 124 (Int.toNat ((15 + (11 * ((t0 : Nat) : Int))) + 9)) 0) 124 (Int.toNat ((15 + (11 * ((t0 : Nat) : Int))) + 10)) 0) 124 5 (((t0 : Nat) : Int) + 1)) 124 (Int.toNat (15 + (11 * ((t0 : Nat) : Int)))) a1) 124 (Int.toNat ((15 + (11 * ((t0 : Nat) : Int))) + 1)) (a2 / 10)) 124 (Int.toNat ((15 + (11 * ((t0 : Nat) : Int))) + 2)) (a2 % 10)) 124 (Int.toNat ((15 + (11 * ((t0 : Nat) : Int))) + 3)) a3) 124 (Int.toNat ((15 + (11 * ((t0 : Nat) : Int))) + 4)) a4) 124 (Int.toNat ((15 + (11 * ((t0 : Nat) : Int))) + 6)) (-1)) 124 (Int.toNat ((15 + (11 * ((t0 : Nat) : Int))) + 7)) 100) 123 4 0) τ)
      refine a_icmp_eq (tgt := 1668) dL_law_330 (by decide) (fun c330_23 => ?_) (fun c330_23 => ?_)
      · exfalso
        omega
      · refine a_iconst dL_law_333 ⟨by decide, by decide⟩ ?_
        exact a_zret dL_law_334 rfl (by first | exact Or.inl rfl | exact Or.inr rfl | omega) (by exfalso; omega)
    · have t3_1_21 : 0 ≤ a1 ∧ a1 ≤ 5 := t3_1_21
      have c10_2_21 : ¬ a2 < 0 := c10_2_21
      have t18_3_21 : 0 ≤ (a2 / 10) ∧ (a2 / 10) < (N 4) := t18_3_21
      have t29_4_21 : 0 ≤ (a2 % 10) ∧ (a2 % 10) < (N 4) := t29_4_21
      have c43_5_21 : ¬ (a2 / 10) = (a2 % 10) := c43_5_21
      have t63_6_21 : 0 ≤ a3 ∧ a3 ≤ 1439 := t63_6_21
      have t75_7_21 : 1 ≤ a4 ∧ a4 ≤ 600 := t75_7_21
      have c92_9_21 : ((t0 : Nat) : Int) = 12 := c92_9_21
      show Aj γ mL_law d mc ms Post 330 [(0, vK 0), (1, vA 0), (2, vA 123), (3, vI ((i : Nat) : Int))] [vI (-1000000003), vI (-1000000001)] (mk h τ)
      refine a_icmp_eq (tgt := 1668) dL_law_330 (by decide) (fun c => absurd c (by decide)) (fun _ => ?_)
      refine a_iconst dL_law_333 ⟨by decide, by decide⟩ ?_
      exact a_zret dL_law_334 rfl (by first | exact Or.inl rfl | exact Or.inr rfl | omega) (by exfalso; omega)
    · have t3_1_21 : 0 ≤ a1 ∧ a1 ≤ 5 := t3_1_21
      have c10_2_21 : ¬ a2 < 0 := c10_2_21
      have t18_3_21 : 0 ≤ (a2 / 10) ∧ (a2 / 10) < (N 4) := t18_3_21
      have t29_4_21 : 0 ≤ (a2 % 10) ∧ (a2 % 10) < (N 4) := t29_4_21
      have c43_5_21 : ¬ (a2 / 10) = (a2 % 10) := c43_5_21
      have t63_6_21 : 0 ≤ a3 ∧ a3 ≤ 1439 := t63_6_21
      have t75_7_21 : ¬ (1 ≤ a4 ∧ a4 ≤ 600) := t75_7_21
      show Aj γ mL_law d mc ms Post 330 [(0, vK 0), (1, vA 0), (2, vA 123), (3, vI ((i : Nat) : Int))] [vI (-1000000001), vI (-1000000001)] (mk h τ)
      refine a_icmp_eq (tgt := 1668) dL_law_330 (by decide) (fun _ => ?_) (fun c => absurd c (by decide))
      exact kE h N J (IV_up (by omega) hI)
    · have t3_1_21 : 0 ≤ a1 ∧ a1 ≤ 5 := t3_1_21
      have c10_2_21 : ¬ a2 < 0 := c10_2_21
      have t18_3_21 : 0 ≤ (a2 / 10) ∧ (a2 / 10) < (N 4) := t18_3_21
      have t29_4_21 : 0 ≤ (a2 % 10) ∧ (a2 % 10) < (N 4) := t29_4_21
      have c43_5_21 : ¬ (a2 / 10) = (a2 % 10) := c43_5_21
      have t63_6_21 : ¬ (0 ≤ a3 ∧ a3 ≤ 1439) := t63_6_21
      show Aj γ mL_law d mc ms Post 330 [(0, vK 0), (1, vA 0), (2, vA 123), (3, vI ((i : Nat) : Int))] [vI (-1000000001), vI (-1000000001)] (mk h τ)
      refine a_icmp_eq (tgt := 1668) dL_law_330 (by decide) (fun _ => ?_) (fun c => absurd c (by decide))
      exact kE h N J (IV_up (by omega) hI)
    · have t3_1_21 : 0 ≤ a1 ∧ a1 ≤ 5 := t3_1_21
      have c10_2_21 : ¬ a2 < 0 := c10_2_21
      have t18_3_21 : 0 ≤ (a2 / 10) ∧ (a2 / 10) < (N 4) := t18_3_21
      have t29_4_21 : ¬ (0 ≤ (a2 % 10) ∧ (a2 % 10) < (N 4)) := t29_4_21
      show Aj γ mL_law d mc ms Post 330 [(0, vK 0), (1, vA 0), (2, vA 123), (3, vI ((i : Nat) : Int))] [vI (-1000000001), vI (-1000000001)] (mk h τ)
      refine a_icmp_eq (tgt := 1668) dL_law_330 (by decide) (fun _ => ?_) (fun c => absurd c (by decide))
      exact kE h N J (IV_up (by omega) hI)
    · have t3_1_21 : 0 ≤ a1 ∧ a1 ≤ 5 := t3_1_21
      have c10_2_21 : ¬ a2 < 0 := c10_2_21
      have t18_3_21 : ¬ (0 ≤ (a2 / 10) ∧ (a2 / 10) < (N 4)) := t18_3_21
      show Aj γ mL_law d mc ms Post 330 [(0, vK 0), (1, vA 0), (2, vA 123), (3, vI ((i : Nat) : Int))] [vI (-1000000001), vI (-1000000001)] (mk h τ)
      refine a_icmp_eq (tgt := 1668) dL_law_330 (by decide) (fun _ => ?_) (fun c => absurd c (by decide))
      exact kE h N J (IV_up (by omega) hI)
    · exfalso
      omega
  · have t13_1_1 : 0 ≤ a1 ∧ a1 ≤ 5 := t13_1_1
    have t25_2_1 : ¬ (0 ≤ (Int.tdiv a2 10) ∧ (Int.tdiv a2 10) < (N 4)) := t25_2_1
    show Aj γ mL_law d mc ms Post 306 [(0, vK 0), (1, vA 0), (2, vA 123), (3, vI ((i : Nat) : Int))] [vI (-1000000001)] (mk h τ)
    refine a_aload_n (j := 2) dL_law_306 rfl rfl (Nat.le_of_ble_eq_true rfl) ?_
    refine a_aload_n (j := 0) dL_law_307 rfl rfl (Nat.le_of_ble_eq_true rfl) ?_
    refine a_iload_n (j := 3) dL_law_308 rfl rfl ?_
    refine a_iconst dL_law_309 ⟨by decide, by decide⟩ ?_
    refine a_iadd (z := (((i : Nat) : Int) + 1)) dL_law_310 (w_ok (by omega) (by omega)) ?_
    refine a_sld (i + 1) dL_law_311 (by omega) (by omega) ?_
    rw [ha1]
    refine a_aload_n (j := 0) dL_law_312 rfl rfl (Nat.le_of_ble_eq_true rfl) ?_
    refine a_iload_n (j := 3) dL_law_313 rfl rfl ?_
    refine a_iconst dL_law_314 ⟨by decide, by decide⟩ ?_
    refine a_iadd (z := (((i : Nat) : Int) + 2)) dL_law_315 (w_ok (by omega) (by omega)) ?_
    refine a_sld (i + 2) dL_law_316 (by omega) (by omega) ?_
    rw [ha2]
    refine a_aload_n (j := 0) dL_law_317 rfl rfl (Nat.le_of_ble_eq_true rfl) ?_
    refine a_iload_n (j := 3) dL_law_318 rfl rfl ?_
    refine a_iconst dL_law_319 ⟨by decide, by decide⟩ ?_
    refine a_iadd (z := (((i : Nat) : Int) + 3)) dL_law_320 (w_ok (by omega) (by omega)) ?_
    refine a_sld (i + 3) dL_law_321 (by omega) (by omega) ?_
    rw [ha3]
    refine a_aload_n (j := 0) dL_law_322 rfl rfl (Nat.le_of_ble_eq_true rfl) ?_
    refine a_iload_n (j := 3) dL_law_323 rfl rfl ?_
    refine a_iconst dL_law_324 ⟨by decide, by decide⟩ ?_
    refine a_iadd (z := (((i : Nat) : Int) + 4)) dL_law_325 (w_ok (by omega) (by omega)) ?_
    refine a_sld (i + 4) dL_law_326 (by omega) (by omega) ?_
    rw [ha4]
    refine b_callV (d' := d - 1) (mc' := 0) (ms' := 0) (mc1 := mc) (ms1 := ms) (st := [vI (-1000000001)]) (b := 123) [vI a1, vI a2, vI a3, vI a4] dL_law_327 mwX9_train lkL_26 (by decide) rfl rc_X9 rfl (Nat.le_of_ble_eq_true rfl) (by omega) (by omega) (by omega) (c_X9_train (v1 := (N 4)) (v2 := ((t0 : Nat) : Int)) (by omega)  (congrFun hN _) ((congrFun hN 5).trans ht0) (show 0 ≤ (N 4) ∧ (N 4) ≤ 6 by omega) (show 0 ≤ ((t0 : Nat) : Int) ∧ ((t0 : Nat) : Int) ≤ 12 by omega) (fun t3_1_24 c10_2_24 => ?_) (fun t3_1_24 c10_2_24 t18_3_24 t29_4_24 c43_5_24 => ?_) (fun t3_1_24 c10_2_24 t18_3_24 t29_4_24 c43_5_24 t63_6_24 t75_7_24 c92_9_24 => ?_) (fun t3_1_24 c10_2_24 t18_3_24 t29_4_24 c43_5_24 t63_6_24 t75_7_24 c92_9_24 => ?_) (fun t3_1_24 c10_2_24 t18_3_24 t29_4_24 c43_5_24 t63_6_24 t75_7_24 => ?_) (fun t3_1_24 c10_2_24 t18_3_24 t29_4_24 c43_5_24 t63_6_24 => ?_) (fun t3_1_24 c10_2_24 t18_3_24 t29_4_24 => ?_) (fun t3_1_24 c10_2_24 t18_3_24 => ?_) (fun t3_1_24 => ?_))
    · have t3_1_24 : 0 ≤ a1 ∧ a1 ≤ 5 := t3_1_24
      have c10_2_24 : a2 < 0 := c10_2_24
      show Aj γ mL_law d mc ms Post 330 [(0, vK 0), (1, vA 0), (2, vA 123), (3, vI ((i : Nat) : Int))] [vI (-1000000001), vI (-1000000001)] (mk h τ)
      refine a_icmp_eq (tgt := 1668) dL_law_330 (by decide) (fun _ => ?_) (fun c => absurd c (by decide))
      exact kE h N J (IV_up (by omega) hI)
    · have t3_1_24 : 0 ≤ a1 ∧ a1 ≤ 5 := t3_1_24
      have c10_2_24 : ¬ a2 < 0 := c10_2_24
      have t18_3_24 : 0 ≤ (a2 / 10) ∧ (a2 / 10) < (N 4) := t18_3_24
      have t29_4_24 : 0 ≤ (a2 % 10) ∧ (a2 % 10) < (N 4) := t29_4_24
      have c43_5_24 : (a2 / 10) = (a2 % 10) := c43_5_24
      show Aj γ mL_law d mc ms Post 330 [(0, vK 0), (1, vA 0), (2, vA 123), (3, vI ((i : Nat) : Int))] [vI (-1000000001), vI (-1000000001)] (mk h τ)
      refine a_icmp_eq (tgt := 1668) dL_law_330 (by decide) (fun _ => ?_) (fun c => absurd c (by decide))
      exact kE h N J (IV_up (by omega) hI)
    · have t3_1_24 : 0 ≤ a1 ∧ a1 ≤ 5 := t3_1_24
      have c10_2_24 : ¬ a2 < 0 := c10_2_24
      have t18_3_24 : 0 ≤ (a2 / 10) ∧ (a2 / 10) < (N 4) := t18_3_24
      have t29_4_24 : 0 ≤ (a2 % 10) ∧ (a2 % 10) < (N 4) := t29_4_24
      have c43_5_24 : ¬ (a2 / 10) = (a2 % 10) := c43_5_24
      have t63_6_24 : 0 ≤ a3 ∧ a3 ≤ 1439 := t63_6_24
      have t75_7_24 : 1 ≤ a4 ∧ a4 ≤ 600 := t75_7_24
      have c92_9_24 : ¬ ((t0 : Nat) : Int) = 12 := c92_9_24
      show Aj γ mL_law d mc ms Post 330 [(0, vK 0), (1, vA 0), (2, vA 123), (3, vI ((i : Nat) : Int))] [vI ((t0 : Nat) : Int), vI (-1000000001)] (mk (up2 (up2 (up2 (up2 (up2 (up2 (up2 (up2 (up2 (up2 (up2 (up2 (up2 (up2 (up2 (up2 (up2 (up2 (up2 (up2 h 124 (Int.toNat ((15 + (11 * ((t0 : Nat) : Int))) + 0)) 0) 124 (Int.toNat ((15 + (11 * ((t0 : Nat) : Int))) + 1)) 0) 124 (Int.toNat ((15 + (11 * ((t0 : Nat) : Int))) + 2)) 0) 124 (Int.toNat ((15 + (11 * ((t0 : Nat) : Int))) + 3)) 0) 124 (Int.toNat ((15 + (11 * ((t0 : Nat) : Int))) + 4)) 0) 124 (Int.toNat ((15 + (11 * ((t0 : Nat) : Int))) + 5)) 0) 124 (Int.toNat ((15 + (11 * ((t0 : Nat) : Int))) + 6)) 0) 124 (Int.toNat ((15 + (11 * ((t0 : Nat) : Int))) + 7)) 0) 124 (Int.toNat ((15 + (11 * ((t0 : Nat) : Int))) + 8)) 0) 124 (Int.toNat ((15 + (11 * ((t0 : Nat) : Int))) + 9)) 0) 124 (Int.toNat ((15 + (11 * ((t0 : Nat) : Int))) + 10)) 0) 124 5 (((t0 : Nat) : Int) + 1)) 124 (Int.toNat (15 + (11 * ((t0 : Nat) : Int)))) a1) 124 (Int.toNat ((15 + (11 * ((t0 : Nat) : Int))) + 1)) (a2 / 10)) 124 (Int.toNat ((15 + (11 * ((t0 : Nat) : Int))) + 2)) (a2 % 10)) 124 (Int.toNat ((15 + (11 * ((t0 : Nat) : Int))) + 3)) a3) 124 (Int.toNat ((15 + (11 * ((t0 : Nat) : Int))) + 4)) a4) 124 (Int.toNat ((15 + (11 * ((t0 : Nat) : Int))) + 6)) (-1)) 124 (Int.toNat ((15 + (11 * ((t0 : Nat) : Int))) + 7)) 100) 123 4 0) τ)
      refine a_icmp_eq (tgt := 1668) dL_law_330 (by decide) (fun c330_26 => ?_) (fun c330_26 => ?_)
      · exfalso
        omega
      · refine a_iconst dL_law_333 ⟨by decide, by decide⟩ ?_
        exact a_zret dL_law_334 rfl (by first | exact Or.inl rfl | exact Or.inr rfl | omega) (by exfalso; omega)
    · have t3_1_24 : 0 ≤ a1 ∧ a1 ≤ 5 := t3_1_24
      have c10_2_24 : ¬ a2 < 0 := c10_2_24
      have t18_3_24 : 0 ≤ (a2 / 10) ∧ (a2 / 10) < (N 4) := t18_3_24
      have t29_4_24 : 0 ≤ (a2 % 10) ∧ (a2 % 10) < (N 4) := t29_4_24
      have c43_5_24 : ¬ (a2 / 10) = (a2 % 10) := c43_5_24
      have t63_6_24 : 0 ≤ a3 ∧ a3 ≤ 1439 := t63_6_24
      have t75_7_24 : 1 ≤ a4 ∧ a4 ≤ 600 := t75_7_24
      have c92_9_24 : ((t0 : Nat) : Int) = 12 := c92_9_24
      show Aj γ mL_law d mc ms Post 330 [(0, vK 0), (1, vA 0), (2, vA 123), (3, vI ((i : Nat) : Int))] [vI (-1000000003), vI (-1000000001)] (mk h τ)
      refine a_icmp_eq (tgt := 1668) dL_law_330 (by decide) (fun c => absurd c (by decide)) (fun _ => ?_)
      refine a_iconst dL_law_333 ⟨by decide, by decide⟩ ?_
      exact a_zret dL_law_334 rfl (by first | exact Or.inl rfl | exact Or.inr rfl | omega) (by exfalso; omega)
    · have t3_1_24 : 0 ≤ a1 ∧ a1 ≤ 5 := t3_1_24
      have c10_2_24 : ¬ a2 < 0 := c10_2_24
      have t18_3_24 : 0 ≤ (a2 / 10) ∧ (a2 / 10) < (N 4) := t18_3_24
      have t29_4_24 : 0 ≤ (a2 % 10) ∧ (a2 % 10) < (N 4) := t29_4_24
      have c43_5_24 : ¬ (a2 / 10) = (a2 % 10) := c43_5_24
      have t63_6_24 : 0 ≤ a3 ∧ a3 ≤ 1439 := t63_6_24
      have t75_7_24 : ¬ (1 ≤ a4 ∧ a4 ≤ 600) := t75_7_24
      show Aj γ mL_law d mc ms Post 330 [(0, vK 0), (1, vA 0), (2, vA 123), (3, vI ((i : Nat) : Int))] [vI (-1000000001), vI (-1000000001)] (mk h τ)
      refine a_icmp_eq (tgt := 1668) dL_law_330 (by decide) (fun _ => ?_) (fun c => absurd c (by decide))
      exact kE h N J (IV_up (by omega) hI)
    · have t3_1_24 : 0 ≤ a1 ∧ a1 ≤ 5 := t3_1_24
      have c10_2_24 : ¬ a2 < 0 := c10_2_24
      have t18_3_24 : 0 ≤ (a2 / 10) ∧ (a2 / 10) < (N 4) := t18_3_24
      have t29_4_24 : 0 ≤ (a2 % 10) ∧ (a2 % 10) < (N 4) := t29_4_24
      have c43_5_24 : ¬ (a2 / 10) = (a2 % 10) := c43_5_24
      have t63_6_24 : ¬ (0 ≤ a3 ∧ a3 ≤ 1439) := t63_6_24
      show Aj γ mL_law d mc ms Post 330 [(0, vK 0), (1, vA 0), (2, vA 123), (3, vI ((i : Nat) : Int))] [vI (-1000000001), vI (-1000000001)] (mk h τ)
      refine a_icmp_eq (tgt := 1668) dL_law_330 (by decide) (fun _ => ?_) (fun c => absurd c (by decide))
      exact kE h N J (IV_up (by omega) hI)
    · have t3_1_24 : 0 ≤ a1 ∧ a1 ≤ 5 := t3_1_24
      have c10_2_24 : ¬ a2 < 0 := c10_2_24
      have t18_3_24 : 0 ≤ (a2 / 10) ∧ (a2 / 10) < (N 4) := t18_3_24
      have t29_4_24 : ¬ (0 ≤ (a2 % 10) ∧ (a2 % 10) < (N 4)) := t29_4_24
      show Aj γ mL_law d mc ms Post 330 [(0, vK 0), (1, vA 0), (2, vA 123), (3, vI ((i : Nat) : Int))] [vI (-1000000001), vI (-1000000001)] (mk h τ)
      refine a_icmp_eq (tgt := 1668) dL_law_330 (by decide) (fun _ => ?_) (fun c => absurd c (by decide))
      exact kE h N J (IV_up (by omega) hI)
    · have t3_1_24 : 0 ≤ a1 ∧ a1 ≤ 5 := t3_1_24
      have c10_2_24 : ¬ a2 < 0 := c10_2_24
      have t18_3_24 : ¬ (0 ≤ (a2 / 10) ∧ (a2 / 10) < (N 4)) := t18_3_24
      show Aj γ mL_law d mc ms Post 330 [(0, vK 0), (1, vA 0), (2, vA 123), (3, vI ((i : Nat) : Int))] [vI (-1000000001), vI (-1000000001)] (mk h τ)
      refine a_icmp_eq (tgt := 1668) dL_law_330 (by decide) (fun _ => ?_) (fun c => absurd c (by decide))
      exact kE h N J (IV_up (by omega) hI)
    · exfalso
      omega
  · have t13_1_1 : ¬ (0 ≤ a1 ∧ a1 ≤ 5) := t13_1_1
    show Aj γ mL_law d mc ms Post 306 [(0, vK 0), (1, vA 0), (2, vA 123), (3, vI ((i : Nat) : Int))] [vI (-1000000001)] (mk h τ)
    refine a_aload_n (j := 2) dL_law_306 rfl rfl (Nat.le_of_ble_eq_true rfl) ?_
    refine a_aload_n (j := 0) dL_law_307 rfl rfl (Nat.le_of_ble_eq_true rfl) ?_
    refine a_iload_n (j := 3) dL_law_308 rfl rfl ?_
    refine a_iconst dL_law_309 ⟨by decide, by decide⟩ ?_
    refine a_iadd (z := (((i : Nat) : Int) + 1)) dL_law_310 (w_ok (by omega) (by omega)) ?_
    refine a_sld (i + 1) dL_law_311 (by omega) (by omega) ?_
    rw [ha1]
    refine a_aload_n (j := 0) dL_law_312 rfl rfl (Nat.le_of_ble_eq_true rfl) ?_
    refine a_iload_n (j := 3) dL_law_313 rfl rfl ?_
    refine a_iconst dL_law_314 ⟨by decide, by decide⟩ ?_
    refine a_iadd (z := (((i : Nat) : Int) + 2)) dL_law_315 (w_ok (by omega) (by omega)) ?_
    refine a_sld (i + 2) dL_law_316 (by omega) (by omega) ?_
    rw [ha2]
    refine a_aload_n (j := 0) dL_law_317 rfl rfl (Nat.le_of_ble_eq_true rfl) ?_
    refine a_iload_n (j := 3) dL_law_318 rfl rfl ?_
    refine a_iconst dL_law_319 ⟨by decide, by decide⟩ ?_
    refine a_iadd (z := (((i : Nat) : Int) + 3)) dL_law_320 (w_ok (by omega) (by omega)) ?_
    refine a_sld (i + 3) dL_law_321 (by omega) (by omega) ?_
    rw [ha3]
    refine a_aload_n (j := 0) dL_law_322 rfl rfl (Nat.le_of_ble_eq_true rfl) ?_
    refine a_iload_n (j := 3) dL_law_323 rfl rfl ?_
    refine a_iconst dL_law_324 ⟨by decide, by decide⟩ ?_
    refine a_iadd (z := (((i : Nat) : Int) + 4)) dL_law_325 (w_ok (by omega) (by omega)) ?_
    refine a_sld (i + 4) dL_law_326 (by omega) (by omega) ?_
    rw [ha4]
    refine b_callV (d' := d - 1) (mc' := 0) (ms' := 0) (mc1 := mc) (ms1 := ms) (st := [vI (-1000000001)]) (b := 123) [vI a1, vI a2, vI a3, vI a4] dL_law_327 mwX9_train lkL_26 (by decide) rfl rc_X9 rfl (Nat.le_of_ble_eq_true rfl) (by omega) (by omega) (by omega) (c_X9_train (v1 := (N 4)) (v2 := ((t0 : Nat) : Int)) (by omega)  (congrFun hN _) ((congrFun hN 5).trans ht0) (show 0 ≤ (N 4) ∧ (N 4) ≤ 6 by omega) (show 0 ≤ ((t0 : Nat) : Int) ∧ ((t0 : Nat) : Int) ≤ 12 by omega) (fun t3_1_27 c10_2_27 => ?_) (fun t3_1_27 c10_2_27 t18_3_27 t29_4_27 c43_5_27 => ?_) (fun t3_1_27 c10_2_27 t18_3_27 t29_4_27 c43_5_27 t63_6_27 t75_7_27 c92_9_27 => ?_) (fun t3_1_27 c10_2_27 t18_3_27 t29_4_27 c43_5_27 t63_6_27 t75_7_27 c92_9_27 => ?_) (fun t3_1_27 c10_2_27 t18_3_27 t29_4_27 c43_5_27 t63_6_27 t75_7_27 => ?_) (fun t3_1_27 c10_2_27 t18_3_27 t29_4_27 c43_5_27 t63_6_27 => ?_) (fun t3_1_27 c10_2_27 t18_3_27 t29_4_27 => ?_) (fun t3_1_27 c10_2_27 t18_3_27 => ?_) (fun t3_1_27 => ?_))
    · exfalso
      omega
    · exfalso
      omega
    · exfalso
      omega
    · exfalso
      omega
    · exfalso
      omega
    · exfalso
      omega
    · exfalso
      omega
    · exfalso
      omega
    · have t3_1_27 : ¬ (0 ≤ a1 ∧ a1 ≤ 5) := t3_1_27
      show Aj γ mL_law d mc ms Post 330 [(0, vK 0), (1, vA 0), (2, vA 123), (3, vI ((i : Nat) : Int))] [vI (-1000000001), vI (-1000000001)] (mk h τ)
      refine a_icmp_eq (tgt := 1668) dL_law_330 (by decide) (fun _ => ?_) (fun c => absurd c (by decide))
      exact kE h N J (IV_up (by omega) hI)
