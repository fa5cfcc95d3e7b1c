set_option maxHeartbeats 16000000 in
theorem s_mark {γ : GT} {d mc ms n i : Nat} {N J : Nat → Int} {h : Nat → Nat → Int} {τ : List AC} {Post : Option AV → List AC → Prop} (hd : 30 ≤ d) (hn : n < 64) (hi : i + 5 < g_L γ) (hL : g_L γ ≤ 384) (hI : IVp n h τ N J) (kE : ∀ h' N' J', IVp (n + 1) h' τ N' J' → Aj γ mL_law d mc ms Post 1668 [(0, vK 0), (1, vA 0), (2, vA 123), (3, vI ((i : Nat) : Int))] [] (mk h' τ)) : Aj γ mL_law d mc ms Post 1259 [(0, vK 0), (1, vA 0), (2, vA 123), (3, vI ((i : Nat) : Int))] [] (mk h τ) := by
  obtain ⟨hN, hJ, hX, hR, hk, hkK, hC, hRC, hst, hO⟩ := id hI
  have hsc := hX.1.1
  have hs1 := hsc.1
  have hs2 := hsc.2.1
  have hs3 := hsc.2.2.1
  have hs4 := hsc.2.2.2.1
  have hs5 := hsc.2.2.2.2
  have hs6 := hX.1.2.2.2.1
  have hx7 := hX.2.1
  have hx8 := hX.2.2.2.1
  obtain ⟨a1, ha1⟩ : ∃ z, (g_x γ (i + 1)).toInt = z := ⟨_, rfl⟩
  have ra1 : inI a1 := ha1 ▸ i32_rng _
  unfold inI at ra1
  obtain ⟨a2, ha2⟩ : ∃ z, (g_x γ (i + 2)).toInt = z := ⟨_, rfl⟩
  have ra2 : inI a2 := ha2 ▸ i32_rng _
  unfold inI at ra2
  obtain ⟨a3, ha3⟩ : ∃ z, (g_x γ (i + 3)).toInt = z := ⟨_, rfl⟩
  have ra3 : inI a3 := ha3 ▸ i32_rng _
  unfold inI at ra3
  rcases (show ¬ (0 ≤ a1 ∧ a1 ≤ 3) ∨ ((0 ≤ a1 ∧ a1 ≤ 3) ∧ (0 ≤ a2 ∧ a2 < 24)) ∨ ((0 ≤ a1 ∧ a1 ≤ 3) ∧ ¬ (0 ≤ a2 ∧ a2 < 24)) by omega) with hin | hin | hin
  · skip
    refine a_aload_n (j := 1) dL_law_1259 rfl rfl (Nat.le_of_ble_eq_true rfl) ?_
    refine a_aload_n (j := 0) dL_law_1260 rfl rfl (Nat.le_of_ble_eq_true rfl) ?_
    refine a_iload_n (j := 3) dL_law_1261 rfl rfl ?_
    refine a_iconst dL_law_1262 ⟨by decide, by decide⟩ ?_
    refine a_iadd (z := (((i : Nat) : Int) + 1)) dL_law_1263 (w_ok (by omega) (by omega)) ?_
    refine a_sld (i + 1) dL_law_1264 (by omega) (by omega) ?_
    rw [ha1]
    refine a_aload_n (j := 0) dL_law_1265 rfl rfl (Nat.le_of_ble_eq_true rfl) ?_
    refine a_iload_n (j := 3) dL_law_1266 rfl rfl ?_
    refine a_iconst dL_law_1267 ⟨by decide, by decide⟩ ?_
    refine a_iadd (z := (((i : Nat) : Int) + 2)) dL_law_1268 (w_ok (by omega) (by omega)) ?_
    refine a_sld (i + 2) dL_law_1269 (by omega) (by omega) ?_
    rw [ha2]
    refine a_aload_n (j := 0) dL_law_1270 rfl rfl (Nat.le_of_ble_eq_true rfl) ?_
    refine a_iload_n (j := 3) dL_law_1271 rfl rfl ?_
    refine a_iconst dL_law_1272 ⟨by decide, by decide⟩ ?_
    refine a_iadd (z := (((i : Nat) : Int) + 3)) dL_law_1273 (w_ok (by omega) (by omega)) ?_
    refine a_sld (i + 3) dL_law_1274 (by omega) (by omega) ?_
    rw [ha3]
    refine b_callV (d' := d - 1) (mc' := 0) (ms' := 0) (mc1 := mc) (ms1 := ms) (st := []) (b := 0) [vI a1, vI a2, vI a3] dL_law_1275 mwX8_mark lkL_155 (by decide) rfl rc_X8 rfl (Nat.le_of_ble_eq_true rfl) (by omega) (by omega) (by omega) (c_X8_mark (v1 := (h (90 + 2 * (Int.toNat a1)) 1)) (v2 := (h (90 + 2 * (Int.toNat a1)) 0)) (by omega)  rfl rfl (show Im a1 4 (0 ≤ (h (90 + 2 * (Int.toNat a1)) 1) ∧ (h (90 + 2 * (Int.toNat a1)) 1) ≤ 24) from fun _ _ => (by omega)) (fun t1_1_1 c24_2_1 t34_3_1 c49_4_1 c75_5_1 => ?_) (fun t1_1_1 c24_2_1 t34_3_1 c49_4_1 c75_5_1 t85_6_1 => ?_) (fun t1_1_1 c24_2_1 t34_3_1 c49_4_1 c75_5_1 t85_6_1 => ?_) (fun t1_1_1 c24_2_1 t34_3_1 c49_4_1 c55_7_1 => ?_) (fun t1_1_1 c24_2_1 t34_3_1 c49_4_1 c55_7_1 => ?_) (fun t1_1_1 c24_2_1 t34_3_1 => ?_) (fun t1_1_1 c24_2_1 => ?_) (fun t1_1_1 => ?_))
    · exfalso
      omega
    · exfalso
      omega
    · exfalso
      omega
    · exfalso
      omega
    · exfalso
      omega
    · exfalso
      omega
    · exfalso
      omega
    · have t1_1_1 : ¬ (0 ≤ a1 ∧ a1 ≤ 3) := t1_1_1
      show Aj γ mL_law d mc ms Post 1278 [(0, vK 0), (1, vA 0), (2, vA 123), (3, vI ((i : Nat) : Int))] [vI (-1000000001)] (mk h τ)
      refine a_aload_n (j := 2) dL_law_1278 rfl rfl (Nat.le_of_ble_eq_true rfl) ?_
      refine a_aload_n (j := 0) dL_law_1279 rfl rfl (Nat.le_of_ble_eq_true rfl) ?_
      refine a_iload_n (j := 3) dL_law_1280 rfl rfl ?_
      refine a_iconst dL_law_1281 ⟨by decide, by decide⟩ ?_
      refine a_iadd (z := (((i : Nat) : Int) + 1)) dL_law_1282 (w_ok (by omega) (by omega)) ?_
      refine a_sld (i + 1) dL_law_1283 (by omega) (by omega) ?_
      rw [ha1]
      refine a_aload_n (j := 0) dL_law_1284 rfl rfl (Nat.le_of_ble_eq_true rfl) ?_
      refine a_iload_n (j := 3) dL_law_1285 rfl rfl ?_
      refine a_iconst dL_law_1286 ⟨by decide, by decide⟩ ?_
      refine a_iadd (z := (((i : Nat) : Int) + 2)) dL_law_1287 (w_ok (by omega) (by omega)) ?_
      refine a_sld (i + 2) dL_law_1288 (by omega) (by omega) ?_
      rw [ha2]
      refine a_aload_n (j := 0) dL_law_1289 rfl rfl (Nat.le_of_ble_eq_true rfl) ?_
      refine a_iload_n (j := 3) dL_law_1290 rfl rfl ?_
      refine a_iconst dL_law_1291 ⟨by decide, by decide⟩ ?_
      refine a_iadd (z := (((i : Nat) : Int) + 3)) dL_law_1292 (w_ok (by omega) (by omega)) ?_
      refine a_sld (i + 3) dL_law_1293 (by omega) (by omega) ?_
      rw [ha3]
      refine b_callV (d' := d - 1) (mc' := 0) (ms' := 0) (mc1 := mc) (ms1 := ms) (st := [vI (-1000000001)]) (b := 123) [vI a1, vI a2, vI a3] dL_law_1294 mwX9_mark lkL_158 (by decide) rfl rc_X9 rfl (Nat.le_of_ble_eq_true rfl) (by omega) (by omega) (by omega) (c_X9_mark (v1 := (h 146 (Int.toNat a1))) (v2 := (h 145 (Int.toNat a1))) (by omega)  rfl rfl (show Im a1 4 (0 ≤ (h 146 (Int.toNat a1)) ∧ (h 146 (Int.toNat a1)) ≤ 24) from fun _ _ => (by omega)) (fun t1_1_3 c16_3_3 t33_5_3 c49_7_3 c68_9_3 c109_11_3 => ?_) (fun t1_1_3 c16_3_3 t33_5_3 c49_7_3 c68_9_3 c74_12_3 c109_14_3 => ?_) (fun t1_1_3 c16_3_3 t33_5_3 c49_7_3 c68_9_3 c74_12_3 t84_15_3 c109_17_3 => ?_) (fun t1_1_3 c16_3_3 t33_5_3 c49_7_3 c68_9_3 c74_12_3 t84_15_3 => ?_) (fun t1_1_3 c16_3_3 t33_5_3 c49_7_3 c55_18_3 c68_20_3 c109_22_3 => ?_) (fun t1_1_3 c16_3_3 t33_5_3 c49_7_3 c55_18_3 => ?_) (fun t1_1_3 c16_3_3 t33_5_3 => ?_) (fun t1_1_3 c16_3_3 => ?_) (fun t1_1_3 => ?_))
      · exfalso
        omega
      · exfalso
        omega
      · exfalso
        omega
      · exfalso
        omega
      · exfalso
        omega
      · exfalso
        omega
      · exfalso
        omega
      · exfalso
        omega
      · have t1_1_3 : ¬ (0 ≤ a1 ∧ a1 ≤ 3) := t1_1_3
        show Aj γ mL_law d mc ms Post 1297 [(0, vK 0), (1, vA 0), (2, vA 123), (3, vI ((i : Nat) : Int))] [vI (-1000000001), vI (-1000000001)] (mk h τ)
        refine a_icmp_eq (tgt := 1668) dL_law_1297 (by decide) (fun _ => ?_) (fun c => absurd c (by decide))
        exact kE h N J (IV_up (by omega) hI)
  · obtain ⟨s0, rfl⟩ : ∃ z : Nat, a1 = (z : Int) := ⟨Int.toNat a1, by omega⟩
    obtain ⟨k0, k1, k2, k3, k4⟩ := hO.2.1 s0 (by omega)
    obtain ⟨p0, rfl⟩ : ∃ z : Nat, a2 = (z : Int) := ⟨Int.toNat a2, by omega⟩
    refine a_aload_n (j := 1) dL_law_1259 rfl rfl (Nat.le_of_ble_eq_true rfl) ?_
    refine a_aload_n (j := 0) dL_law_1260 rfl rfl (Nat.le_of_ble_eq_true rfl) ?_
    refine a_iload_n (j := 3) dL_law_1261 rfl rfl ?_
    refine a_iconst dL_law_1262 ⟨by decide, by decide⟩ ?_
    refine a_iadd (z := (((i : Nat) : Int) + 1)) dL_law_1263 (w_ok (by omega) (by omega)) ?_
    refine a_sld (i + 1) dL_law_1264 (by omega) (by omega) ?_
    rw [ha1]
    refine a_aload_n (j := 0) dL_law_1265 rfl rfl (Nat.le_of_ble_eq_true rfl) ?_
    refine a_iload_n (j := 3) dL_law_1266 rfl rfl ?_
    refine a_iconst dL_law_1267 ⟨by decide, by decide⟩ ?_
    refine a_iadd (z := (((i : Nat) : Int) + 2)) dL_law_1268 (w_ok (by omega) (by omega)) ?_
    refine a_sld (i + 2) dL_law_1269 (by omega) (by omega) ?_
    rw [ha2]
    refine a_aload_n (j := 0) dL_law_1270 rfl rfl (Nat.le_of_ble_eq_true rfl) ?_
    refine a_iload_n (j := 3) dL_law_1271 rfl rfl ?_
    refine a_iconst dL_law_1272 ⟨by decide, by decide⟩ ?_
    refine a_iadd (z := (((i : Nat) : Int) + 3)) dL_law_1273 (w_ok (by omega) (by omega)) ?_
    refine a_sld (i + 3) dL_law_1274 (by omega) (by omega) ?_
    rw [ha3]
    refine b_callV (d' := d - 1) (mc' := 0) (ms' := 0) (mc1 := mc) (ms1 := ms) (st := []) (b := 0) [vI ((s0 : Nat) : Int), vI ((p0 : Nat) : Int), vI a3] dL_law_1275 mwX8_mark lkL_155 (by decide) rfl rc_X8 rfl (Nat.le_of_ble_eq_true rfl) (by omega) (by omega) (by omega) (c_X8_mark (v1 := (h 146 s0)) (v2 := (h 145 s0)) (by omega)  k1 k0 (show Im ((s0 : Nat) : Int) 4 (0 ≤ (h 146 s0) ∧ (h 146 s0) ≤ 24) from fun _ _ => (by omega)) (fun t1_1_1 c24_2_1 t34_3_1 c49_4_1 c75_5_1 => ?_) (fun t1_1_1 c24_2_1 t34_3_1 c49_4_1 c75_5_1 t85_6_1 => ?_) (fun t1_1_1 c24_2_1 t34_3_1 c49_4_1 c75_5_1 t85_6_1 => ?_) (fun t1_1_1 c24_2_1 t34_3_1 c49_4_1 c55_7_1 => ?_) (fun t1_1_1 c24_2_1 t34_3_1 c49_4_1 c55_7_1 => ?_) (fun t1_1_1 c24_2_1 t34_3_1 => ?_) (fun t1_1_1 c24_2_1 => ?_) (fun t1_1_1 => ?_))
    · have t1_1_1 : 0 ≤ ((s0 : Nat) : Int) ∧ ((s0 : Nat) : Int) ≤ 3 := t1_1_1
      have c24_2_1 : ¬ (h 145 s0) = (-1) := c24_2_1
      have t34_3_1 : 0 ≤ ((p0 : Nat) : Int) ∧ ((p0 : Nat) : Int) < (h 146 s0) := t34_3_1
      have c49_4_1 : ¬ (h 145 s0) = 0 := c49_4_1
      have c75_5_1 : a3 = (-1000000005) := c75_5_1
      show Aj γ mL_law d mc ms Post 1278 [(0, vK 0), (1, vA 0), (2, vA 123), (3, vI ((i : Nat) : Int))] [vI 1] (mk (up2 h ((90 + 2 * s0) + 1) p0 a3) τ)
      refine a_aload_n (j := 2) dL_law_1278 rfl rfl (Nat.le_of_ble_eq_true rfl) ?_
      refine a_aload_n (j := 0) dL_law_1279 rfl rfl (Nat.le_of_ble_eq_true rfl) ?_
      refine a_iload_n (j := 3) dL_law_1280 rfl rfl ?_
      refine a_iconst dL_law_1281 ⟨by decide, by decide⟩ ?_
      refine a_iadd (z := (((i : Nat) : Int) + 1)) dL_law_1282 (w_ok (by omega) (by omega)) ?_
      refine a_sld (i + 1) dL_law_1283 (by omega) (by omega) ?_
      rw [ha1]
      refine a_aload_n (j := 0) dL_law_1284 rfl rfl (Nat.le_of_ble_eq_true rfl) ?_
      refine a_iload_n (j := 3) dL_law_1285 rfl rfl ?_
      refine a_iconst dL_law_1286 ⟨by decide, by decide⟩ ?_
      refine a_iadd (z := (((i : Nat) : Int) + 2)) dL_law_1287 (w_ok (by omega) (by omega)) ?_
      refine a_sld (i + 2) dL_law_1288 (by omega) (by omega) ?_
      rw [ha2]
      refine a_aload_n (j := 0) dL_law_1289 rfl rfl (Nat.le_of_ble_eq_true rfl) ?_
      refine a_iload_n (j := 3) dL_law_1290 rfl rfl ?_
      refine a_iconst dL_law_1291 ⟨by decide, by decide⟩ ?_
      refine a_iadd (z := (((i : Nat) : Int) + 3)) dL_law_1292 (w_ok (by omega) (by omega)) ?_
      refine a_sld (i + 3) dL_law_1293 (by omega) (by omega) ?_
      rw [ha3]
      refine b_callV (d' := d - 1) (mc' := 0) (ms' := 0) (mc1 := mc) (ms1 := ms) (st := [vI 1]) (b := 123) [vI ((s0 : Nat) : Int), vI ((p0 : Nat) : Int), vI a3] dL_law_1294 mwX9_mark lkL_158 (by decide) rfl rc_X9 rfl (Nat.le_of_ble_eq_true rfl) (by omega) (by omega) (by omega) (c_X9_mark (v1 := (h 146 s0)) (v2 := (h 145 s0)) (by omega)  ((up2_ne (by omega)).trans rfl) ((up2_ne (by omega)).trans rfl) (show Im ((s0 : Nat) : Int) 4 (0 ≤ (h 146 s0) ∧ (h 146 s0) ≤ 24) from fun _ _ => (by omega)) (fun t1_1_3 c16_3_3 t33_5_3 c49_7_3 c68_9_3 c109_11_3 => ?_) (fun t1_1_3 c16_3_3 t33_5_3 c49_7_3 c68_9_3 c74_12_3 c109_14_3 => ?_) (fun t1_1_3 c16_3_3 t33_5_3 c49_7_3 c68_9_3 c74_12_3 t84_15_3 c109_17_3 => ?_) (fun t1_1_3 c16_3_3 t33_5_3 c49_7_3 c68_9_3 c74_12_3 t84_15_3 => ?_) (fun t1_1_3 c16_3_3 t33_5_3 c49_7_3 c55_18_3 c68_20_3 c109_22_3 => ?_) (fun t1_1_3 c16_3_3 t33_5_3 c49_7_3 c55_18_3 => ?_) (fun t1_1_3 c16_3_3 t33_5_3 => ?_) (fun t1_1_3 c16_3_3 => ?_) (fun t1_1_3 => ?_))
      · have t1_1_3 : 0 ≤ ((s0 : Nat) : Int) ∧ ((s0 : Nat) : Int) ≤ 3 := t1_1_3
        have c16_3_3 : 0 ≤ (h 145 s0) := c16_3_3
        have t33_5_3 : 0 ≤ ((p0 : Nat) : Int) ∧ ((p0 : Nat) : Int) ≤ ((h 146 s0) - 1) := t33_5_3
        have c49_7_3 : ¬ (h 145 s0) = 0 := c49_7_3
        have c68_9_3 : ¬ (h 145 s0) = 1 := c68_9_3
        have c109_11_3 : ¬ (h 145 s0) = 0 := c109_11_3
        show Aj γ mL_law d mc ms Post 1297 [(0, vK 0), (1, vA 0), (2, vA 123), (3, vI ((i : Nat) : Int))] [vI 1, vI 1] (mk (up2 (up2 h ((90 + 2 * s0) + 1) p0 a3) 147 (Int.toNat ((24 * ((s0 : Nat) : Int)) + ((p0 : Nat) : Int))) a3) τ)
        refine a_icmp_eq (tgt := 1668) dL_law_1297 (by decide) (fun _ => ?_) (fun c => absurd c (by decide))
        generalize hHH : (up2 (up2 h ((90 + 2 * s0) + 1) p0 a3) 147 (Int.toNat ((24 * ((s0 : Nat) : Int)) + ((p0 : Nat) : Int))) a3) = H
        have gR : ∀ c, (c < 90 ∨ 98 ≤ c) → c ≠ 147 → H c = h c := fun c q0_ q1_ => by rw [← hHH]; exact ((up2_row (by omega)).trans ((up2_row (by omega)).trans rfl))
        have e1_ : H ((90 + 2 * s0) + 1) p0 = a3 := by rw [← hHH]; exact ((up2_ne (by omega)).trans (up2_hit (by omega) (by omega)))
        have e2_ : ∀ k : Nat, k ≠ p0 → H ((90 + 2 * s0) + 1) k = h ((90 + 2 * s0) + 1) k := fun k q0_ => by rw [← hHH]; exact ((up2_ne (by omega)).trans ((up2_ne (by omega)).trans rfl))
        have e3_ : ∀ c, 90 ≤ c → c < 98 → c ≠ 90 + 2 * s0 + 1 → H c = h c := fun c q0_ q1_ q2_ => by rw [← hHH]; exact ((up2_row (by omega)).trans ((up2_row (by omega)).trans rfl))
        have e7_ : H 147 (24 * s0 + p0) = a3 := by rw [← hHH]; exact (up2_hit (by omega) (by omega))
        have e8_ : ∀ k : Nat, k ≠ 24 * s0 + p0 → H 147 k = h 147 k := fun k q0_ => by rw [← hHH]; exact ((up2_ne (by omega)).trans ((up2_ne (by omega)).trans rfl))
        have t1_ : H 84 1 = h 84 1 := by rw [← hHH]; exact ((up2_ne (by omega)).trans ((up2_ne (by omega)).trans rfl))
        have t3_ : H 123 17 = h 123 17 := by rw [← hHH]; exact ((up2_ne (by omega)).trans ((up2_ne (by omega)).trans rfl))
        have w0_ : H 0 12 = h 0 12 := by rw [← hHH]; exact ((up2_ne (by omega)).trans ((up2_ne (by omega)).trans rfl))
        have w1_ : H 123 44 = h 123 44 := by rw [← hHH]; exact ((up2_ne (by omega)).trans ((up2_ne (by omega)).trans rfl))
        have g0 : ∀ k : Nat, k ≠ 12 → H 0 k = h 0 k := fun k q0_ => by rw [← hHH]; exact ((up2_ne (by omega)).trans ((up2_ne (by omega)).trans rfl))
        have gF : ∀ c, ((1 ≤ c ∧ c < 84) ∨ (124 ≤ c ∧ c < 137)) → H c = h c := fun c q0_ => by rw [← hHH]; exact ((up2_row (by omega)).trans ((up2_row (by omega)).trans rfl))
        have k3_ : H 123 3 = h 123 3 := by rw [← hHH]; exact ((up2_ne (by omega)).trans ((up2_ne (by omega)).trans rfl))
        have k4_ : H 123 4 = h 123 4 := by rw [← hHH]; exact ((up2_ne (by omega)).trans ((up2_ne (by omega)).trans rfl))
        have k9_ : H 123 9 = h 123 9 := by rw [← hHH]; exact ((up2_ne (by omega)).trans ((up2_ne (by omega)).trans rfl))
        have g3 : ∀ k, k = 3 ∨ k = 4 ∨ k = 9 → H 123 k = h 123 k := fun k hk => by rcases hk with rfl | rfl | rfl; exact k3_; exact k4_; exact k9_
        exact kE H N J (IV_up (by omega) (IV_o hI gF g0 g3 ⟨TPE_fr t1_ (gR 85 (by omega) (by decide)) t3_ (gR 137 (by omega) (by decide)) hO.1, SHE_m (by omega) (by omega) e1_ e2_ e3_ (gR 145 (by omega) (by decide)) (gR 146 (by omega) (by decide)) e7_ e8_ hO.2.1, SLE_fr (fun c h1 h2 => gR c (by omega) (by omega)) (gR 148 (by omega) (by decide)) (gR 149 (by omega) (by decide)) (gR 150 (by omega) (by decide)) (gR 151 (by omega) (by decide)) hO.2.2.1, WTE_fr w0_ w1_ (gR 89 (by omega) (by decide)) (gR 153 (by omega) (by decide)) hO.2.2.2.1, CNE_fr (gR 138 (by omega) (by decide)) (gR 139 (by omega) (by decide)) hO.2.2.2.2⟩))
      · have t1_1_3 : 0 ≤ ((s0 : Nat) : Int) ∧ ((s0 : Nat) : Int) ≤ 3 := t1_1_3
        have c16_3_3 : 0 ≤ (h 145 s0) := c16_3_3
        have t33_5_3 : 0 ≤ ((p0 : Nat) : Int) ∧ ((p0 : Nat) : Int) ≤ ((h 146 s0) - 1) := t33_5_3
        have c49_7_3 : ¬ (h 145 s0) = 0 := c49_7_3
        have c68_9_3 : (h 145 s0) = 1 := c68_9_3
        have c74_12_3 : a3 = (-1000000005) := c74_12_3
        have c109_14_3 : ¬ (h 145 s0) = 0 := c109_14_3
        show Aj γ mL_law d mc ms Post 1297 [(0, vK 0), (1, vA 0), (2, vA 123), (3, vI ((i : Nat) : Int))] [vI 1, vI 1] (mk (up2 (up2 h ((90 + 2 * s0) + 1) p0 a3) 147 (Int.toNat ((24 * ((s0 : Nat) : Int)) + ((p0 : Nat) : Int))) a3) τ)
        refine a_icmp_eq (tgt := 1668) dL_law_1297 (by decide) (fun _ => ?_) (fun c => absurd c (by decide))
        generalize hHH : (up2 (up2 h ((90 + 2 * s0) + 1) p0 a3) 147 (Int.toNat ((24 * ((s0 : Nat) : Int)) + ((p0 : Nat) : Int))) a3) = H
        have gR : ∀ c, (c < 90 ∨ 98 ≤ c) → c ≠ 147 → H c = h c := fun c q0_ q1_ => by rw [← hHH]; exact ((up2_row (by omega)).trans ((up2_row (by omega)).trans rfl))
        have e1_ : H ((90 + 2 * s0) + 1) p0 = a3 := by rw [← hHH]; exact ((up2_ne (by omega)).trans (up2_hit (by omega) (by omega)))
        have e2_ : ∀ k : Nat, k ≠ p0 → H ((90 + 2 * s0) + 1) k = h ((90 + 2 * s0) + 1) k := fun k q0_ => by rw [← hHH]; exact ((up2_ne (by omega)).trans ((up2_ne (by omega)).trans rfl))
        have e3_ : ∀ c, 90 ≤ c → c < 98 → c ≠ 90 + 2 * s0 + 1 → H c = h c := fun c q0_ q1_ q2_ => by rw [← hHH]; exact ((up2_row (by omega)).trans ((up2_row (by omega)).trans rfl))
        have e7_ : H 147 (24 * s0 + p0) = a3 := by rw [← hHH]; exact (up2_hit (by omega) (by omega))
        have e8_ : ∀ k : Nat, k ≠ 24 * s0 + p0 → H 147 k = h 147 k := fun k q0_ => by rw [← hHH]; exact ((up2_ne (by omega)).trans ((up2_ne (by omega)).trans rfl))
        have t1_ : H 84 1 = h 84 1 := by rw [← hHH]; exact ((up2_ne (by omega)).trans ((up2_ne (by omega)).trans rfl))
        have t3_ : H 123 17 = h 123 17 := by rw [← hHH]; exact ((up2_ne (by omega)).trans ((up2_ne (by omega)).trans rfl))
        have w0_ : H 0 12 = h 0 12 := by rw [← hHH]; exact ((up2_ne (by omega)).trans ((up2_ne (by omega)).trans rfl))
        have w1_ : H 123 44 = h 123 44 := by rw [← hHH]; exact ((up2_ne (by omega)).trans ((up2_ne (by omega)).trans rfl))
        have g0 : ∀ k : Nat, k ≠ 12 → H 0 k = h 0 k := fun k q0_ => by rw [← hHH]; exact ((up2_ne (by omega)).trans ((up2_ne (by omega)).trans rfl))
        have gF : ∀ c, ((1 ≤ c ∧ c < 84) ∨ (124 ≤ c ∧ c < 137)) → H c = h c := fun c q0_ => by rw [← hHH]; exact ((up2_row (by omega)).trans ((up2_row (by omega)).trans rfl))
        have k3_ : H 123 3 = h 123 3 := by rw [← hHH]; exact ((up2_ne (by omega)).trans ((up2_ne (by omega)).trans rfl))
        have k4_ : H 123 4 = h 123 4 := by rw [← hHH]; exact ((up2_ne (by omega)).trans ((up2_ne (by omega)).trans rfl))
        have k9_ : H 123 9 = h 123 9 := by rw [← hHH]; exact ((up2_ne (by omega)).trans ((up2_ne (by omega)).trans rfl))
        have g3 : ∀ k, k = 3 ∨ k = 4 ∨ k = 9 → H 123 k = h 123 k := fun k hk => by rcases hk with rfl | rfl | rfl; exact k3_; exact k4_; exact k9_
        exact kE H N J (IV_up (by omega) (IV_o hI gF g0 g3 ⟨TPE_fr t1_ (gR 85 (by omega) (by decide)) t3_ (gR 137 (by omega) (by decide)) hO.1, SHE_m (by omega) (by omega) e1_ e2_ e3_ (gR 145 (by omega) (by decide)) (gR 146 (by omega) (by decide)) e7_ e8_ hO.2.1, SLE_fr (fun c h1 h2 => gR c (by omega) (by omega)) (gR 148 (by omega) (by decide)) (gR 149 (by omega) (by decide)) (gR 150 (by omega) (by decide)) (gR 151 (by omega) (by decide)) hO.2.2.1, WTE_fr w0_ w1_ (gR 89 (by omega) (by decide)) (gR 153 (by omega) (by decide)) hO.2.2.2.1, CNE_fr (gR 138 (by omega) (by decide)) (gR 139 (by omega) (by decide)) hO.2.2.2.2⟩))
      · exfalso
        omega
      · exfalso
        omega
      · exfalso
        omega
      · exfalso
        omega
      · have t1_1_3 : 0 ≤ ((s0 : Nat) : Int) ∧ ((s0 : Nat) : Int) ≤ 3 := t1_1_3
        have c16_3_3 : 0 ≤ (h 145 s0) := c16_3_3
        have t33_5_3 : ¬ (0 ≤ ((p0 : Nat) : Int) ∧ ((p0 : Nat) : Int) ≤ ((h 146 s0) - 1)) := t33_5_3
        show Aj γ mL_law d mc ms Post 1297 [(0, vK 0), (1, vA 0), (2, vA 123), (3, vI ((i : Nat) : Int))] [vI (-1000000013), vI 1] (mk (up2 h ((90 + 2 * s0) + 1) p0 a3) τ)
        refine a_icmp_eq (tgt := 1668) dL_law_1297 (by decide) (fun c => absurd c (by decide)) (fun _ => ?_)
        refine a_iconst dL_law_1300 ⟨by decide, by decide⟩ ?_
        exact a_zret dL_law_1301 rfl (by first | exact Or.inl rfl | exact Or.inr rfl | omega) (by exfalso; omega)
      · have t1_1_3 : 0 ≤ ((s0 : Nat) : Int) ∧ ((s0 : Nat) : Int) ≤ 3 := t1_1_3
        have c16_3_3 : ¬ 0 ≤ (h 145 s0) := c16_3_3
        show Aj γ mL_law d mc ms Post 1297 [(0, vK 0), (1, vA 0), (2, vA 123), (3, vI ((i : Nat) : Int))] [vI (-1000000011), vI 1] (mk (up2 h ((90 + 2 * s0) + 1) p0 a3) τ)
        refine a_icmp_eq (tgt := 1668) dL_law_1297 (by decide) (fun c => absurd c (by decide)) (fun _ => ?_)
        refine a_iconst dL_law_1300 ⟨by decide, by decide⟩ ?_
        exact a_zret dL_law_1301 rfl (by first | exact Or.inl rfl | exact Or.inr rfl | omega) (by exfalso; omega)
      · exfalso
        omega
    · have t1_1_1 : 0 ≤ ((s0 : Nat) : Int) ∧ ((s0 : Nat) : Int) ≤ 3 := t1_1_1
      have c24_2_1 : ¬ (h 145 s0) = (-1) := c24_2_1
      have t34_3_1 : 0 ≤ ((p0 : Nat) : Int) ∧ ((p0 : Nat) : Int) < (h 146 s0) := t34_3_1
      have c49_4_1 : ¬ (h 145 s0) = 0 := c49_4_1
      have c75_5_1 : ¬ a3 = (-1000000005) := c75_5_1
      have t85_6_1 : (-99999) ≤ a3 ∧ a3 ≤ 99999 := t85_6_1
      show Aj γ mL_law d mc ms Post 1278 [(0, vK 0), (1, vA 0), (2, vA 123), (3, vI ((i : Nat) : Int))] [vI 1] (mk (up2 h ((90 + 2 * s0) + 1) p0 a3) τ)
      refine a_aload_n (j := 2) dL_law_1278 rfl rfl (Nat.le_of_ble_eq_true rfl) ?_
      refine a_aload_n (j := 0) dL_law_1279 rfl rfl (Nat.le_of_ble_eq_true rfl) ?_
      refine a_iload_n (j := 3) dL_law_1280 rfl rfl ?_
      refine a_iconst dL_law_1281 ⟨by decide, by decide⟩ ?_
      refine a_iadd (z := (((i : Nat) : Int) + 1)) dL_law_1282 (w_ok (by omega) (by omega)) ?_
      refine a_sld (i + 1) dL_law_1283 (by omega) (by omega) ?_
      rw [ha1]
      refine a_aload_n (j := 0) dL_law_1284 rfl rfl (Nat.le_of_ble_eq_true rfl) ?_
      refine a_iload_n (j := 3) dL_law_1285 rfl rfl ?_
      refine a_iconst dL_law_1286 ⟨by decide, by decide⟩ ?_
      refine a_iadd (z := (((i : Nat) : Int) + 2)) dL_law_1287 (w_ok (by omega) (by omega)) ?_
      refine a_sld (i + 2) dL_law_1288 (by omega) (by omega) ?_
      rw [ha2]
      refine a_aload_n (j := 0) dL_law_1289 rfl rfl (Nat.le_of_ble_eq_true rfl) ?_
      refine a_iload_n (j := 3) dL_law_1290 rfl rfl ?_
      refine a_iconst dL_law_1291 ⟨by decide, by decide⟩ ?_
      refine a_iadd (z := (((i : Nat) : Int) + 3)) dL_law_1292 (w_ok (by omega) (by omega)) ?_
      refine a_sld (i + 3) dL_law_1293 (by omega) (by omega) ?_
      rw [ha3]
      refine b_callV (d' := d - 1) (mc' := 0) (ms' := 0) (mc1 := mc) (ms1 := ms) (st := [vI 1]) (b := 123) [vI ((s0 : Nat) : Int), vI ((p0 : Nat) : Int), vI a3] dL_law_1294 mwX9_mark lkL_158 (by decide) rfl rc_X9 rfl (Nat.le_of_ble_eq_true rfl) (by omega) (by omega) (by omega) (c_X9_mark (v1 := (h 146 s0)) (v2 := (h 145 s0)) (by omega)  ((up2_ne (by omega)).trans rfl) ((up2_ne (by omega)).trans rfl) (show Im ((s0 : Nat) : Int) 4 (0 ≤ (h 146 s0) ∧ (h 146 s0) ≤ 24) from fun _ _ => (by omega)) (fun t1_1_5 c16_3_5 t33_5_5 c49_7_5 c68_9_5 c109_11_5 => ?_) (fun t1_1_5 c16_3_5 t33_5_5 c49_7_5 c68_9_5 c74_12_5 c109_14_5 => ?_) (fun t1_1_5 c16_3_5 t33_5_5 c49_7_5 c68_9_5 c74_12_5 t84_15_5 c109_17_5 => ?_) (fun t1_1_5 c16_3_5 t33_5_5 c49_7_5 c68_9_5 c74_12_5 t84_15_5 => ?_) (fun t1_1_5 c16_3_5 t33_5_5 c49_7_5 c55_18_5 c68_20_5 c109_22_5 => ?_) (fun t1_1_5 c16_3_5 t33_5_5 c49_7_5 c55_18_5 => ?_) (fun t1_1_5 c16_3_5 t33_5_5 => ?_) (fun t1_1_5 c16_3_5 => ?_) (fun t1_1_5 => ?_))
      · have t1_1_5 : 0 ≤ ((s0 : Nat) : Int) ∧ ((s0 : Nat) : Int) ≤ 3 := t1_1_5
        have c16_3_5 : 0 ≤ (h 145 s0) := c16_3_5
        have t33_5_5 : 0 ≤ ((p0 : Nat) : Int) ∧ ((p0 : Nat) : Int) ≤ ((h 146 s0) - 1) := t33_5_5
        have c49_7_5 : ¬ (h 145 s0) = 0 := c49_7_5
        have c68_9_5 : ¬ (h 145 s0) = 1 := c68_9_5
        have c109_11_5 : ¬ (h 145 s0) = 0 := c109_11_5
        show Aj γ mL_law d mc ms Post 1297 [(0, vK 0), (1, vA 0), (2, vA 123), (3, vI ((i : Nat) : Int))] [vI 1, vI 1] (mk (up2 (up2 h ((90 + 2 * s0) + 1) p0 a3) 147 (Int.toNat ((24 * ((s0 : Nat) : Int)) + ((p0 : Nat) : Int))) a3) τ)
        refine a_icmp_eq (tgt := 1668) dL_law_1297 (by decide) (fun _ => ?_) (fun c => absurd c (by decide))
        generalize hHH : (up2 (up2 h ((90 + 2 * s0) + 1) p0 a3) 147 (Int.toNat ((24 * ((s0 : Nat) : Int)) + ((p0 : Nat) : Int))) a3) = H
        have gR : ∀ c, (c < 90 ∨ 98 ≤ c) → c ≠ 147 → H c = h c := fun c q0_ q1_ => by rw [← hHH]; exact ((up2_row (by omega)).trans ((up2_row (by omega)).trans rfl))
        have e1_ : H ((90 + 2 * s0) + 1) p0 = a3 := by rw [← hHH]; exact ((up2_ne (by omega)).trans (up2_hit (by omega) (by omega)))
        have e2_ : ∀ k : Nat, k ≠ p0 → H ((90 + 2 * s0) + 1) k = h ((90 + 2 * s0) + 1) k := fun k q0_ => by rw [← hHH]; exact ((up2_ne (by omega)).trans ((up2_ne (by omega)).trans rfl))
        have e3_ : ∀ c, 90 ≤ c → c < 98 → c ≠ 90 + 2 * s0 + 1 → H c = h c := fun c q0_ q1_ q2_ => by rw [← hHH]; exact ((up2_row (by omega)).trans ((up2_row (by omega)).trans rfl))
        have e7_ : H 147 (24 * s0 + p0) = a3 := by rw [← hHH]; exact (up2_hit (by omega) (by omega))
        have e8_ : ∀ k : Nat, k ≠ 24 * s0 + p0 → H 147 k = h 147 k := fun k q0_ => by rw [← hHH]; exact ((up2_ne (by omega)).trans ((up2_ne (by omega)).trans rfl))
        have t1_ : H 84 1 = h 84 1 := by rw [← hHH]; exact ((up2_ne (by omega)).trans ((up2_ne (by omega)).trans rfl))
        have t3_ : H 123 17 = h 123 17 := by rw [← hHH]; exact ((up2_ne (by omega)).trans ((up2_ne (by omega)).trans rfl))
        have w0_ : H 0 12 = h 0 12 := by rw [← hHH]; exact ((up2_ne (by omega)).trans ((up2_ne (by omega)).trans rfl))
        have w1_ : H 123 44 = h 123 44 := by rw [← hHH]; exact ((up2_ne (by omega)).trans ((up2_ne (by omega)).trans rfl))
        have g0 : ∀ k : Nat, k ≠ 12 → H 0 k = h 0 k := fun k q0_ => by rw [← hHH]; exact ((up2_ne (by omega)).trans ((up2_ne (by omega)).trans rfl))
        have gF : ∀ c, ((1 ≤ c ∧ c < 84) ∨ (124 ≤ c ∧ c < 137)) → H c = h c := fun c q0_ => by rw [← hHH]; exact ((up2_row (by omega)).trans ((up2_row (by omega)).trans rfl))
        have k3_ : H 123 3 = h 123 3 := by rw [← hHH]; exact ((up2_ne (by omega)).trans ((up2_ne (by omega)).trans rfl))
        have k4_ : H 123 4 = h 123 4 := by rw [← hHH]; exact ((up2_ne (by omega)).trans ((up2_ne (by omega)).trans rfl))
        have k9_ : H 123 9 = h 123 9 := by rw [← hHH]; exact ((up2_ne (by omega)).trans ((up2_ne (by omega)).trans rfl))
        have g3 : ∀ k, k = 3 ∨ k = 4 ∨ k = 9 → H 123 k = h 123 k := fun k hk => by rcases hk with rfl | rfl | rfl; exact k3_; exact k4_; exact k9_
        exact kE H N J (IV_up (by omega) (IV_o hI gF g0 g3 ⟨TPE_fr t1_ (gR 85 (by omega) (by decide)) t3_ (gR 137 (by omega) (by decide)) hO.1, SHE_m (by omega) (by omega) e1_ e2_ e3_ (gR 145 (by omega) (by decide)) (gR 146 (by omega) (by decide)) e7_ e8_ hO.2.1, SLE_fr (fun c h1 h2 => gR c (by omega) (by omega)) (gR 148 (by omega) (by decide)) (gR 149 (by omega) (by decide)) (gR 150 (by omega) (by decide)) (gR 151 (by omega) (by decide)) hO.2.2.1, WTE_fr w0_ w1_ (gR 89 (by omega) (by decide)) (gR 153 (by omega) (by decide)) hO.2.2.2.1, CNE_fr (gR 138 (by omega) (by decide)) (gR 139 (by omega) (by decide)) hO.2.2.2.2⟩))
      · exfalso
        omega
      · have t1_1_5 : 0 ≤ ((s0 : Nat) : Int) ∧ ((s0 : Nat) : Int) ≤ 3 := t1_1_5
        have c16_3_5 : 0 ≤ (h 145 s0) := c16_3_5
        have t33_5_5 : 0 ≤ ((p0 : Nat) : Int) ∧ ((p0 : Nat) : Int) ≤ ((h 146 s0) - 1) := t33_5_5
        have c49_7_5 : ¬ (h 145 s0) = 0 := c49_7_5
        have c68_9_5 : (h 145 s0) = 1 := c68_9_5
        have c74_12_5 : ¬ a3 = (-1000000005) := c74_12_5
        have t84_15_5 : (-99999) ≤ a3 ∧ a3 ≤ 99999 := t84_15_5
        have c109_17_5 : ¬ (h 145 s0) = 0 := c109_17_5
        show Aj γ mL_law d mc ms Post 1297 [(0, vK 0), (1, vA 0), (2, vA 123), (3, vI ((i : Nat) : Int))] [vI 1, vI 1] (mk (up2 (up2 h ((90 + 2 * s0) + 1) p0 a3) 147 (Int.toNat ((24 * ((s0 : Nat) : Int)) + ((p0 : Nat) : Int))) a3) τ)
        refine a_icmp_eq (tgt := 1668) dL_law_1297 (by decide) (fun _ => ?_) (fun c => absurd c (by decide))
        generalize hHH : (up2 (up2 h ((90 + 2 * s0) + 1) p0 a3) 147 (Int.toNat ((24 * ((s0 : Nat) : Int)) + ((p0 : Nat) : Int))) a3) = H
        have gR : ∀ c, (c < 90 ∨ 98 ≤ c) → c ≠ 147 → H c = h c := fun c q0_ q1_ => by rw [← hHH]; exact ((up2_row (by omega)).trans ((up2_row (by omega)).trans rfl))
        have e1_ : H ((90 + 2 * s0) + 1) p0 = a3 := by rw [← hHH]; exact ((up2_ne (by omega)).trans (up2_hit (by omega) (by omega)))
        have e2_ : ∀ k : Nat, k ≠ p0 → H ((90 + 2 * s0) + 1) k = h ((90 + 2 * s0) + 1) k := fun k q0_ => by rw [← hHH]; exact ((up2_ne (by omega)).trans ((up2_ne (by omega)).trans rfl))
        have e3_ : ∀ c, 90 ≤ c → c < 98 → c ≠ 90 + 2 * s0 + 1 → H c = h c := fun c q0_ q1_ q2_ => by rw [← hHH]; exact ((up2_row (by omega)).trans ((up2_row (by omega)).trans rfl))
        have e7_ : H 147 (24 * s0 + p0) = a3 := by rw [← hHH]; exact (up2_hit (by omega) (by omega))
        have e8_ : ∀ k : Nat, k ≠ 24 * s0 + p0 → H 147 k = h 147 k := fun k q0_ => by rw [← hHH]; exact ((up2_ne (by omega)).trans ((up2_ne (by omega)).trans rfl))
        have t1_ : H 84 1 = h 84 1 := by rw [← hHH]; exact ((up2_ne (by omega)).trans ((up2_ne (by omega)).trans rfl))
        have t3_ : H 123 17 = h 123 17 := by rw [← hHH]; exact ((up2_ne (by omega)).trans ((up2_ne (by omega)).trans rfl))
        have w0_ : H 0 12 = h 0 12 := by rw [← hHH]; exact ((up2_ne (by omega)).trans ((up2_ne (by omega)).trans rfl))
        have w1_ : H 123 44 = h 123 44 := by rw [← hHH]; exact ((up2_ne (by omega)).trans ((up2_ne (by omega)).trans rfl))
        have g0 : ∀ k : Nat, k ≠ 12 → H 0 k = h 0 k := fun k q0_ => by rw [← hHH]; exact ((up2_ne (by omega)).trans ((up2_ne (by omega)).trans rfl))
        have gF : ∀ c, ((1 ≤ c ∧ c < 84) ∨ (124 ≤ c ∧ c < 137)) → H c = h c := fun c q0_ => by rw [← hHH]; exact ((up2_row (by omega)).trans ((up2_row (by omega)).trans rfl))
        have k3_ : H 123 3 = h 123 3 := by rw [← hHH]; exact ((up2_ne (by omega)).trans ((up2_ne (by omega)).trans rfl))
        have k4_ : H 123 4 = h 123 4 := by rw [← hHH]; exact ((up2_ne (by omega)).trans ((up2_ne (by omega)).trans rfl))
        have k9_ : H 123 9 = h 123 9 := by rw [← hHH]; exact ((up2_ne (by omega)).trans ((up2_ne (by omega)).trans rfl))
        have g3 : ∀ k, k = 3 ∨ k = 4 ∨ k = 9 → H 123 k = h 123 k := fun k hk => by rcases hk with rfl | rfl | rfl; exact k3_; exact k4_; exact k9_
        exact kE H N J (IV_up (by omega) (IV_o hI gF g0 g3 ⟨TPE_fr t1_ (gR 85 (by omega) (by decide)) t3_ (gR 137 (by omega) (by decide)) hO.1, SHE_m (by omega) (by omega) e1_ e2_ e3_ (gR 145 (by omega) (by decide)) (gR 146 (by omega) (by decide)) e7_ e8_ hO.2.1, SLE_fr (fun c h1 h2 => gR c (by omega) (by omega)) (gR 148 (by omega) (by decide)) (gR 149 (by omega) (by decide)) (gR 150 (by omega) (by decide)) (gR 151 (by omega) (by decide)) hO.2.2.1, WTE_fr w0_ w1_ (gR 89 (by omega) (by decide)) (gR 153 (by omega) (by decide)) hO.2.2.2.1, CNE_fr (gR 138 (by omega) (by decide)) (gR 139 (by omega) (by decide)) hO.2.2.2.2⟩))
      · exfalso
        omega
      · exfalso
        omega
      · exfalso
        omega
      · have t1_1_5 : 0 ≤ ((s0 : Nat) : Int) ∧ ((s0 : Nat) : Int) ≤ 3 := t1_1_5
        have c16_3_5 : 0 ≤ (h 145 s0) := c16_3_5
        have t33_5_5 : ¬ (0 ≤ ((p0 : Nat) : Int) ∧ ((p0 : Nat) : Int) ≤ ((h 146 s0) - 1)) := t33_5_5
        show Aj γ mL_law d mc ms Post 1297 [(0, vK 0), (1, vA 0), (2, vA 123), (3, vI ((i : Nat) : Int))] [vI (-1000000013), vI 1] (mk (up2 h ((90 + 2 * s0) + 1) p0 a3) τ)
        refine a_icmp_eq (tgt := 1668) dL_law_1297 (by decide) (fun c => absurd c (by decide)) (fun _ => ?_)
        refine a_iconst dL_law_1300 ⟨by decide, by decide⟩ ?_
        exact a_zret dL_law_1301 rfl (by first | exact Or.inl rfl | exact Or.inr rfl | omega) (by exfalso; omega)
      · have t1_1_5 : 0 ≤ ((s0 : Nat) : Int) ∧ ((s0 : Nat) : Int) ≤ 3 := t1_1_5
        have c16_3_5 : ¬ 0 ≤ (h 145 s0) := c16_3_5
        show Aj γ mL_law d mc ms Post 1297 [(0, vK 0), (1, vA 0), (2, vA 123), (3, vI ((i : Nat) : Int))] [vI (-1000000011), vI 1] (mk (up2 h ((90 + 2 * s0) + 1) p0 a3) τ)
        refine a_icmp_eq (tgt := 1668) dL_law_1297 (by decide) (fun c => absurd c (by decide)) (fun _ => ?_)
        refine a_iconst dL_law_1300 ⟨by decide, by decide⟩ ?_
        exact a_zret dL_law_1301 rfl (by first | exact Or.inl rfl | exact Or.inr rfl | omega) (by exfalso; omega)
      · exfalso
        omega
    · have t1_1_1 : 0 ≤ ((s0 : Nat) : Int) ∧ ((s0 : Nat) : Int) ≤ 3 := t1_1_1
      have c24_2_1 : ¬ (h 145 s0) = (-1) := c24_2_1
      have t34_3_1 : 0 ≤ ((p0 : Nat) : Int) ∧ ((p0 : Nat) : Int) < (h 146 s0) := t34_3_1
      have c49_4_1 : ¬ (h 145 s0) = 0 := c49_4_1
      have c75_5_1 : ¬ a3 = (-1000000005) := c75_5_1
      have t85_6_1 : ¬ ((-99999) ≤ a3 ∧ a3 ≤ 99999) := t85_6_1
      show Aj γ mL_law d mc ms Post 1278 [(0, vK 0), (1, vA 0), (2, vA 123), (3, vI ((i : Nat) : Int))] [vI (-1000000001)] (mk h τ)
      refine a_aload_n (j := 2) dL_law_1278 rfl rfl (Nat.le_of_ble_eq_true rfl) ?_
      refine a_aload_n (j := 0) dL_law_1279 rfl rfl (Nat.le_of_ble_eq_true rfl) ?_
      refine a_iload_n (j := 3) dL_law_1280 rfl rfl ?_
      refine a_iconst dL_law_1281 ⟨by decide, by decide⟩ ?_
      refine a_iadd (z := (((i : Nat) : Int) + 1)) dL_law_1282 (w_ok (by omega) (by omega)) ?_
      refine a_sld (i + 1) dL_law_1283 (by omega) (by omega) ?_
      rw [ha1]
      refine a_aload_n (j := 0) dL_law_1284 rfl rfl (Nat.le_of_ble_eq_true rfl) ?_
      refine a_iload_n (j := 3) dL_law_1285 rfl rfl ?_
      refine a_iconst dL_law_1286 ⟨by decide, by decide⟩ ?_
      refine a_iadd (z := (((i : Nat) : Int) + 2)) dL_law_1287 (w_ok (by omega) (by omega)) ?_
      refine a_sld (i + 2) dL_law_1288 (by omega) (by omega) ?_
      rw [ha2]
      refine a_aload_n (j := 0) dL_law_1289 rfl rfl (Nat.le_of_ble_eq_true rfl) ?_
      refine a_iload_n (j := 3) dL_law_1290 rfl rfl ?_
      refine a_iconst dL_law_1291 ⟨by decide, by decide⟩ ?_
      refine a_iadd (z := (((i : Nat) : Int) + 3)) dL_law_1292 (w_ok (by omega) (by omega)) ?_
      refine a_sld (i + 3) dL_law_1293 (by omega) (by omega) ?_
      rw [ha3]
      refine b_callV (d' := d - 1) (mc' := 0) (ms' := 0) (mc1 := mc) (ms1 := ms) (st := [vI (-1000000001)]) (b := 123) [vI ((s0 : Nat) : Int), vI ((p0 : Nat) : Int), vI a3] dL_law_1294 mwX9_mark lkL_158 (by decide) rfl rc_X9 rfl (Nat.le_of_ble_eq_true rfl) (by omega) (by omega) (by omega) (c_X9_mark (v1 := (h 146 s0)) (v2 := (h 145 s0)) (by omega)  rfl rfl (show Im ((s0 : Nat) : Int) 4 (0 ≤ (h 146 s0) ∧ (h 146 s0) ≤ 24) from fun _ _ => (by omega)) (fun t1_1_7 c16_3_7 t33_5_7 c49_7_7 c68_9_7 c109_11_7 => ?_) (fun t1_1_7 c16_3_7 t33_5_7 c49_7_7 c68_9_7 c74_12_7 c109_14_7 => ?_) (fun t1_1_7 c16_3_7 t33_5_7 c49_7_7 c68_9_7 c74_12_7 t84_15_7 c109_17_7 => ?_) (fun t1_1_7 c16_3_7 t33_5_7 c49_7_7 c68_9_7 c74_12_7 t84_15_7 => ?_) (fun t1_1_7 c16_3_7 t33_5_7 c49_7_7 c55_18_7 c68_20_7 c109_22_7 => ?_) (fun t1_1_7 c16_3_7 t33_5_7 c49_7_7 c55_18_7 => ?_) (fun t1_1_7 c16_3_7 t33_5_7 => ?_) (fun t1_1_7 c16_3_7 => ?_) (fun t1_1_7 => ?_))
      · have t1_1_7 : 0 ≤ ((s0 : Nat) : Int) ∧ ((s0 : Nat) : Int) ≤ 3 := t1_1_7
        have c16_3_7 : 0 ≤ (h 145 s0) := c16_3_7
        have t33_5_7 : 0 ≤ ((p0 : Nat) : Int) ∧ ((p0 : Nat) : Int) ≤ ((h 146 s0) - 1) := t33_5_7
        have c49_7_7 : ¬ (h 145 s0) = 0 := c49_7_7
        have c68_9_7 : ¬ (h 145 s0) = 1 := c68_9_7
        have c109_11_7 : ¬ (h 145 s0) = 0 := c109_11_7
        show Aj γ mL_law d mc ms Post 1297 [(0, vK 0), (1, vA 0), (2, vA 123), (3, vI ((i : Nat) : Int))] [vI 1, vI (-1000000001)] (mk (up2 h 147 (Int.toNat ((24 * ((s0 : Nat) : Int)) + ((p0 : Nat) : Int))) a3) τ)
        refine a_icmp_eq (tgt := 1668) dL_law_1297 (by decide) (fun c => absurd c (by decide)) (fun _ => ?_)
        refine a_iconst dL_law_1300 ⟨by decide, by decide⟩ ?_
        exact a_zret dL_law_1301 rfl (by first | exact Or.inl rfl | exact Or.inr rfl | omega) (by exfalso; omega)
      · exfalso
        omega
      · exfalso
        omega
      · have t1_1_7 : 0 ≤ ((s0 : Nat) : Int) ∧ ((s0 : Nat) : Int) ≤ 3 := t1_1_7
        have c16_3_7 : 0 ≤ (h 145 s0) := c16_3_7
        have t33_5_7 : 0 ≤ ((p0 : Nat) : Int) ∧ ((p0 : Nat) : Int) ≤ ((h 146 s0) - 1) := t33_5_7
        have c49_7_7 : ¬ (h 145 s0) = 0 := c49_7_7
        have c68_9_7 : (h 145 s0) = 1 := c68_9_7
        have c74_12_7 : ¬ a3 = (-1000000005) := c74_12_7
        have t84_15_7 : ¬ ((-99999) ≤ a3 ∧ a3 ≤ 99999) := t84_15_7
        show Aj γ mL_law d mc ms Post 1297 [(0, vK 0), (1, vA 0), (2, vA 123), (3, vI ((i : Nat) : Int))] [vI (-1000000001), vI (-1000000001)] (mk h τ)
        refine a_icmp_eq (tgt := 1668) dL_law_1297 (by decide) (fun _ => ?_) (fun c => absurd c (by decide))
        exact kE h N J (IV_up (by omega) hI)
      · exfalso
        omega
      · exfalso
        omega
      · have t1_1_7 : 0 ≤ ((s0 : Nat) : Int) ∧ ((s0 : Nat) : Int) ≤ 3 := t1_1_7
        have c16_3_7 : 0 ≤ (h 145 s0) := c16_3_7
        have t33_5_7 : ¬ (0 ≤ ((p0 : Nat) : Int) ∧ ((p0 : Nat) : Int) ≤ ((h 146 s0) - 1)) := t33_5_7
        show Aj γ mL_law d mc ms Post 1297 [(0, vK 0), (1, vA 0), (2, vA 123), (3, vI ((i : Nat) : Int))] [vI (-1000000013), vI (-1000000001)] (mk h τ)
        refine a_icmp_eq (tgt := 1668) dL_law_1297 (by decide) (fun c => absurd c (by decide)) (fun _ => ?_)
        refine a_iconst dL_law_1300 ⟨by decide, by decide⟩ ?_
        exact a_zret dL_law_1301 rfl (by first | exact Or.inl rfl | exact Or.inr rfl | omega) (by exfalso; omega)
      · have t1_1_7 : 0 ≤ ((s0 : Nat) : Int) ∧ ((s0 : Nat) : Int) ≤ 3 := t1_1_7
        have c16_3_7 : ¬ 0 ≤ (h 145 s0) := c16_3_7
        show Aj γ mL_law d mc ms Post 1297 [(0, vK 0), (1, vA 0), (2, vA 123), (3, vI ((i : Nat) : Int))] [vI (-1000000011), vI (-1000000001)] (mk h τ)
        refine a_icmp_eq (tgt := 1668) dL_law_1297 (by decide) (fun c => absurd c (by decide)) (fun _ => ?_)
        refine a_iconst dL_law_1300 ⟨by decide, by decide⟩ ?_
        exact a_zret dL_law_1301 rfl (by first | exact Or.inl rfl | exact Or.inr rfl | omega) (by exfalso; omega)
      · exfalso
        omega
    · have t1_1_1 : 0 ≤ ((s0 : Nat) : Int) ∧ ((s0 : Nat) : Int) ≤ 3 := t1_1_1
      have c24_2_1 : ¬ (h 145 s0) = (-1) := c24_2_1
      have t34_3_1 : 0 ≤ ((p0 : Nat) : Int) ∧ ((p0 : Nat) : Int) < (h 146 s0) := t34_3_1
      have c49_4_1 : (h 145 s0) = 0 := c49_4_1
      have c55_7_1 : ¬ a3 = (-1000000005) := c55_7_1
      show Aj γ mL_law d mc ms Post 1278 [(0, vK 0), (1, vA 0), (2, vA 123), (3, vI ((i : Nat) : Int))] [vI 1] (mk (up2 h ((90 + 2 * s0) + 1) p0 (s16 a3)) τ)
      refine a_aload_n (j := 2) dL_law_1278 rfl rfl (Nat.le_of_ble_eq_true rfl) ?_
      refine a_aload_n (j := 0) dL_law_1279 rfl rfl (Nat.le_of_ble_eq_true rfl) ?_
      refine a_iload_n (j := 3) dL_law_1280 rfl rfl ?_
      refine a_iconst dL_law_1281 ⟨by decide, by decide⟩ ?_
      refine a_iadd (z := (((i : Nat) : Int) + 1)) dL_law_1282 (w_ok (by omega) (by omega)) ?_
      refine a_sld (i + 1) dL_law_1283 (by omega) (by omega) ?_
      rw [ha1]
      refine a_aload_n (j := 0) dL_law_1284 rfl rfl (Nat.le_of_ble_eq_true rfl) ?_
      refine a_iload_n (j := 3) dL_law_1285 rfl rfl ?_
      refine a_iconst dL_law_1286 ⟨by decide, by decide⟩ ?_
      refine a_iadd (z := (((i : Nat) : Int) + 2)) dL_law_1287 (w_ok (by omega) (by omega)) ?_
      refine a_sld (i + 2) dL_law_1288 (by omega) (by omega) ?_
      rw [ha2]
      refine a_aload_n (j := 0) dL_law_1289 rfl rfl (Nat.le_of_ble_eq_true rfl) ?_
      refine a_iload_n (j := 3) dL_law_1290 rfl rfl ?_
      refine a_iconst dL_law_1291 ⟨by decide, by decide⟩ ?_
      refine a_iadd (z := (((i : Nat) : Int) + 3)) dL_law_1292 (w_ok (by omega) (by omega)) ?_
      refine a_sld (i + 3) dL_law_1293 (by omega) (by omega) ?_
      rw [ha3]
      refine b_callV (d' := d - 1) (mc' := 0) (ms' := 0) (mc1 := mc) (ms1 := ms) (st := [vI 1]) (b := 123) [vI ((s0 : Nat) : Int), vI ((p0 : Nat) : Int), vI a3] dL_law_1294 mwX9_mark lkL_158 (by decide) rfl rc_X9 rfl (Nat.le_of_ble_eq_true rfl) (by omega) (by omega) (by omega) (c_X9_mark (v1 := (h 146 s0)) (v2 := (h 145 s0)) (by omega)  ((up2_ne (by omega)).trans rfl) ((up2_ne (by omega)).trans rfl) (show Im ((s0 : Nat) : Int) 4 (0 ≤ (h 146 s0) ∧ (h 146 s0) ≤ 24) from fun _ _ => (by omega)) (fun t1_1_9 c16_3_9 t33_5_9 c49_7_9 c68_9_9 c109_11_9 => ?_) (fun t1_1_9 c16_3_9 t33_5_9 c49_7_9 c68_9_9 c74_12_9 c109_14_9 => ?_) (fun t1_1_9 c16_3_9 t33_5_9 c49_7_9 c68_9_9 c74_12_9 t84_15_9 c109_17_9 => ?_) (fun t1_1_9 c16_3_9 t33_5_9 c49_7_9 c68_9_9 c74_12_9 t84_15_9 => ?_) (fun t1_1_9 c16_3_9 t33_5_9 c49_7_9 c55_18_9 c68_20_9 c109_22_9 => ?_) (fun t1_1_9 c16_3_9 t33_5_9 c49_7_9 c55_18_9 => ?_) (fun t1_1_9 c16_3_9 t33_5_9 => ?_) (fun t1_1_9 c16_3_9 => ?_) (fun t1_1_9 => ?_))
      · exfalso
        omega
      · exfalso
        omega
      · exfalso
        omega
      · exfalso
        omega
      · have t1_1_9 : 0 ≤ ((s0 : Nat) : Int) ∧ ((s0 : Nat) : Int) ≤ 3 := t1_1_9
        have c16_3_9 : 0 ≤ (h 145 s0) := c16_3_9
        have t33_5_9 : 0 ≤ ((p0 : Nat) : Int) ∧ ((p0 : Nat) : Int) ≤ ((h 146 s0) - 1) := t33_5_9
        have c49_7_9 : (h 145 s0) = 0 := c49_7_9
        have c55_18_9 : ¬ a3 = (-1000000005) := c55_18_9
        have c68_20_9 : ¬ (h 145 s0) = 1 := c68_20_9
        have c109_22_9 : (h 145 s0) = 0 := c109_22_9
        show Aj γ mL_law d mc ms Post 1297 [(0, vK 0), (1, vA 0), (2, vA 123), (3, vI ((i : Nat) : Int))] [vI 1, vI 1] (mk (up2 (up2 h ((90 + 2 * s0) + 1) p0 (s16 a3)) 147 (Int.toNat ((24 * ((s0 : Nat) : Int)) + ((p0 : Nat) : Int))) (s16 a3)) τ)
        refine a_icmp_eq (tgt := 1668) dL_law_1297 (by decide) (fun _ => ?_) (fun c => absurd c (by decide))
        generalize hHH : (up2 (up2 h ((90 + 2 * s0) + 1) p0 (s16 a3)) 147 (Int.toNat ((24 * ((s0 : Nat) : Int)) + ((p0 : Nat) : Int))) (s16 a3)) = H
        have gR : ∀ c, (c < 90 ∨ 98 ≤ c) → c ≠ 147 → H c = h c := fun c q0_ q1_ => by rw [← hHH]; exact ((up2_row (by omega)).trans ((up2_row (by omega)).trans rfl))
        have e1_ : H ((90 + 2 * s0) + 1) p0 = (s16 a3) := by rw [← hHH]; exact ((up2_ne (by omega)).trans (up2_hit (by omega) (by omega)))
        have e2_ : ∀ k : Nat, k ≠ p0 → H ((90 + 2 * s0) + 1) k = h ((90 + 2 * s0) + 1) k := fun k q0_ => by rw [← hHH]; exact ((up2_ne (by omega)).trans ((up2_ne (by omega)).trans rfl))
        have e3_ : ∀ c, 90 ≤ c → c < 98 → c ≠ 90 + 2 * s0 + 1 → H c = h c := fun c q0_ q1_ q2_ => by rw [← hHH]; exact ((up2_row (by omega)).trans ((up2_row (by omega)).trans rfl))
        have e7_ : H 147 (24 * s0 + p0) = (s16 a3) := by rw [← hHH]; exact (up2_hit (by omega) (by omega))
        have e8_ : ∀ k : Nat, k ≠ 24 * s0 + p0 → H 147 k = h 147 k := fun k q0_ => by rw [← hHH]; exact ((up2_ne (by omega)).trans ((up2_ne (by omega)).trans rfl))
        have t1_ : H 84 1 = h 84 1 := by rw [← hHH]; exact ((up2_ne (by omega)).trans ((up2_ne (by omega)).trans rfl))
        have t3_ : H 123 17 = h 123 17 := by rw [← hHH]; exact ((up2_ne (by omega)).trans ((up2_ne (by omega)).trans rfl))
        have w0_ : H 0 12 = h 0 12 := by rw [← hHH]; exact ((up2_ne (by omega)).trans ((up2_ne (by omega)).trans rfl))
        have w1_ : H 123 44 = h 123 44 := by rw [← hHH]; exact ((up2_ne (by omega)).trans ((up2_ne (by omega)).trans rfl))
        have g0 : ∀ k : Nat, k ≠ 12 → H 0 k = h 0 k := fun k q0_ => by rw [← hHH]; exact ((up2_ne (by omega)).trans ((up2_ne (by omega)).trans rfl))
        have gF : ∀ c, ((1 ≤ c ∧ c < 84) ∨ (124 ≤ c ∧ c < 137)) → H c = h c := fun c q0_ => by rw [← hHH]; exact ((up2_row (by omega)).trans ((up2_row (by omega)).trans rfl))
        have k3_ : H 123 3 = h 123 3 := by rw [← hHH]; exact ((up2_ne (by omega)).trans ((up2_ne (by omega)).trans rfl))
        have k4_ : H 123 4 = h 123 4 := by rw [← hHH]; exact ((up2_ne (by omega)).trans ((up2_ne (by omega)).trans rfl))
        have k9_ : H 123 9 = h 123 9 := by rw [← hHH]; exact ((up2_ne (by omega)).trans ((up2_ne (by omega)).trans rfl))
        have g3 : ∀ k, k = 3 ∨ k = 4 ∨ k = 9 → H 123 k = h 123 k := fun k hk => by rcases hk with rfl | rfl | rfl; exact k3_; exact k4_; exact k9_
        exact kE H N J (IV_up (by omega) (IV_o hI gF g0 g3 ⟨TPE_fr t1_ (gR 85 (by omega) (by decide)) t3_ (gR 137 (by omega) (by decide)) hO.1, SHE_m (by omega) (by omega) e1_ e2_ e3_ (gR 145 (by omega) (by decide)) (gR 146 (by omega) (by decide)) e7_ e8_ hO.2.1, SLE_fr (fun c h1 h2 => gR c (by omega) (by omega)) (gR 148 (by omega) (by decide)) (gR 149 (by omega) (by decide)) (gR 150 (by omega) (by decide)) (gR 151 (by omega) (by decide)) hO.2.2.1, WTE_fr w0_ w1_ (gR 89 (by omega) (by decide)) (gR 153 (by omega) (by decide)) hO.2.2.2.1, CNE_fr (gR 138 (by omega) (by decide)) (gR 139 (by omega) (by decide)) hO.2.2.2.2⟩))
      · exfalso
        omega
      · have t1_1_9 : 0 ≤ ((s0 : Nat) : Int) ∧ ((s0 : Nat) : Int) ≤ 3 := t1_1_9
        have c16_3_9 : 0 ≤ (h 145 s0) := c16_3_9
        have t33_5_9 : ¬ (0 ≤ ((p0 : Nat) : Int) ∧ ((p0 : Nat) : Int) ≤ ((h 146 s0) - 1)) := t33_5_9
        show Aj γ mL_law d mc ms Post 1297 [(0, vK 0), (1, vA 0), (2, vA 123), (3, vI ((i : Nat) : Int))] [vI (-1000000013), vI 1] (mk (up2 h ((90 + 2 * s0) + 1) p0 (s16 a3)) τ)
        refine a_icmp_eq (tgt := 1668) dL_law_1297 (by decide) (fun c => absurd c (by decide)) (fun _ => ?_)
        refine a_iconst dL_law_1300 ⟨by decide, by decide⟩ ?_
        exact a_zret dL_law_1301 rfl (by first | exact Or.inl rfl | exact Or.inr rfl | omega) (by exfalso; omega)
      · have t1_1_9 : 0 ≤ ((s0 : Nat) : Int) ∧ ((s0 : Nat) : Int) ≤ 3 := t1_1_9
        have c16_3_9 : ¬ 0 ≤ (h 145 s0) := c16_3_9
        show Aj γ mL_law d mc ms Post 1297 [(0, vK 0), (1, vA 0), (2, vA 123), (3, vI ((i : Nat) : Int))] [vI (-1000000011), vI 1] (mk (up2 h ((90 + 2 * s0) + 1) p0 (s16 a3)) τ)
        refine a_icmp_eq (tgt := 1668) dL_law_1297 (by decide) (fun c => absurd c (by decide)) (fun _ => ?_)
        refine a_iconst dL_law_1300 ⟨by decide, by decide⟩ ?_
        exact a_zret dL_law_1301 rfl (by first | exact Or.inl rfl | exact Or.inr rfl | omega) (by exfalso; omega)
      · exfalso
        omega
    · have t1_1_1 : 0 ≤ ((s0 : Nat) : Int) ∧ ((s0 : Nat) : Int) ≤ 3 := t1_1_1
      have c24_2_1 : ¬ (h 145 s0) = (-1) := c24_2_1
      have t34_3_1 : 0 ≤ ((p0 : Nat) : Int) ∧ ((p0 : Nat) : Int) < (h 146 s0) := t34_3_1
      have c49_4_1 : (h 145 s0) = 0 := c49_4_1
      have c55_7_1 : a3 = (-1000000005) := c55_7_1
      show Aj γ mL_law d mc ms Post 1278 [(0, vK 0), (1, vA 0), (2, vA 123), (3, vI ((i : Nat) : Int))] [vI (-1000000012)] (mk h τ)
      refine a_aload_n (j := 2) dL_law_1278 rfl rfl (Nat.le_of_ble_eq_true rfl) ?_
      refine a_aload_n (j := 0) dL_law_1279 rfl rfl (Nat.le_of_ble_eq_true rfl) ?_
      refine a_iload_n (j := 3) dL_law_1280 rfl rfl ?_
      refine a_iconst dL_law_1281 ⟨by decide, by decide⟩ ?_
      refine a_iadd (z := (((i : Nat) : Int) + 1)) dL_law_1282 (w_ok (by omega) (by omega)) ?_
      refine a_sld (i + 1) dL_law_1283 (by omega) (by omega) ?_
      rw [ha1]
      refine a_aload_n (j := 0) dL_law_1284 rfl rfl (Nat.le_of_ble_eq_true rfl) ?_
      refine a_iload_n (j := 3) dL_law_1285 rfl rfl ?_
      refine a_iconst dL_law_1286 ⟨by decide, by decide⟩ ?_
      refine a_iadd (z := (((i : Nat) : Int) + 2)) dL_law_1287 (w_ok (by omega) (by omega)) ?_
      refine a_sld (i + 2) dL_law_1288 (by omega) (by omega) ?_
      rw [ha2]
      refine a_aload_n (j := 0) dL_law_1289 rfl rfl (Nat.le_of_ble_eq_true rfl) ?_
      refine a_iload_n (j := 3) dL_law_1290 rfl rfl ?_
      refine a_iconst dL_law_1291 ⟨by decide, by decide⟩ ?_
      refine a_iadd (z := (((i : Nat) : Int) + 3)) dL_law_1292 (w_ok (by omega) (by omega)) ?_
      refine a_sld (i + 3) dL_law_1293 (by omega) (by omega) ?_
      rw [ha3]
      refine b_callV (d' := d - 1) (mc' := 0) (ms' := 0) (mc1 := mc) (ms1 := ms) (st := [vI (-1000000012)]) (b := 123) [vI ((s0 : Nat) : Int), vI ((p0 : Nat) : Int), vI a3] dL_law_1294 mwX9_mark lkL_158 (by decide) rfl rc_X9 rfl (Nat.le_of_ble_eq_true rfl) (by omega) (by omega) (by omega) (c_X9_mark (v1 := (h 146 s0)) (v2 := (h 145 s0)) (by omega)  rfl rfl (show Im ((s0 : Nat) : Int) 4 (0 ≤ (h 146 s0) ∧ (h 146 s0) ≤ 24) from fun _ _ => (by omega)) (fun t1_1_11 c16_3_11 t33_5_11 c49_7_11 c68_9_11 c109_11_11 => ?_) (fun t1_1_11 c16_3_11 t33_5_11 c49_7_11 c68_9_11 c74_12_11 c109_14_11 => ?_) (fun t1_1_11 c16_3_11 t33_5_11 c49_7_11 c68_9_11 c74_12_11 t84_15_11 c109_17_11 => ?_) (fun t1_1_11 c16_3_11 t33_5_11 c49_7_11 c68_9_11 c74_12_11 t84_15_11 => ?_) (fun t1_1_11 c16_3_11 t33_5_11 c49_7_11 c55_18_11 c68_20_11 c109_22_11 => ?_) (fun t1_1_11 c16_3_11 t33_5_11 c49_7_11 c55_18_11 => ?_) (fun t1_1_11 c16_3_11 t33_5_11 => ?_) (fun t1_1_11 c16_3_11 => ?_) (fun t1_1_11 => ?_))
      · exfalso
        omega
      · exfalso
        omega
      · exfalso
        omega
      · exfalso
        omega
      · exfalso
        omega
      · have t1_1_11 : 0 ≤ ((s0 : Nat) : Int) ∧ ((s0 : Nat) : Int) ≤ 3 := t1_1_11
        have c16_3_11 : 0 ≤ (h 145 s0) := c16_3_11
        have t33_5_11 : 0 ≤ ((p0 : Nat) : Int) ∧ ((p0 : Nat) : Int) ≤ ((h 146 s0) - 1) := t33_5_11
        have c49_7_11 : (h 145 s0) = 0 := c49_7_11
        have c55_18_11 : a3 = (-1000000005) := c55_18_11
        show Aj γ mL_law d mc ms Post 1297 [(0, vK 0), (1, vA 0), (2, vA 123), (3, vI ((i : Nat) : Int))] [vI (-1000000012), vI (-1000000012)] (mk h τ)
        refine a_icmp_eq (tgt := 1668) dL_law_1297 (by decide) (fun _ => ?_) (fun c => absurd c (by decide))
        exact kE h N J (IV_up (by omega) hI)
      · have t1_1_11 : 0 ≤ ((s0 : Nat) : Int) ∧ ((s0 : Nat) : Int) ≤ 3 := t1_1_11
        have c16_3_11 : 0 ≤ (h 145 s0) := c16_3_11
        have t33_5_11 : ¬ (0 ≤ ((p0 : Nat) : Int) ∧ ((p0 : Nat) : Int) ≤ ((h 146 s0) - 1)) := t33_5_11
        show Aj γ mL_law d mc ms Post 1297 [(0, vK 0), (1, vA 0), (2, vA 123), (3, vI ((i : Nat) : Int))] [vI (-1000000013), vI (-1000000012)] (mk h τ)
        refine a_icmp_eq (tgt := 1668) dL_law_1297 (by decide) (fun c => absurd c (by decide)) (fun _ => ?_)
        refine a_iconst dL_law_1300 ⟨by decide, by decide⟩ ?_
        exact a_zret dL_law_1301 rfl (by first | exact Or.inl rfl | exact Or.inr rfl | omega) (by exfalso; omega)
      · have t1_1_11 : 0 ≤ ((s0 : Nat) : Int) ∧ ((s0 : Nat) : Int) ≤ 3 := t1_1_11
        have c16_3_11 : ¬ 0 ≤ (h 145 s0) := c16_3_11
        show Aj γ mL_law d mc ms Post 1297 [(0, vK 0), (1, vA 0), (2, vA 123), (3, vI ((i : Nat) : Int))] [vI (-1000000011), vI (-1000000012)] (mk h τ)
        refine a_icmp_eq (tgt := 1668) dL_law_1297 (by decide) (fun c => absurd c (by decide)) (fun _ => ?_)
        refine a_iconst dL_law_1300 ⟨by decide, by decide⟩ ?_
        exact a_zret dL_law_1301 rfl (by first | exact Or.inl rfl | exact Or.inr rfl | omega) (by exfalso; omega)
      · exfalso
        omega
    · have t1_1_1 : 0 ≤ ((s0 : Nat) : Int) ∧ ((s0 : Nat) : Int) ≤ 3 := t1_1_1
      have c24_2_1 : ¬ (h 145 s0) = (-1) := c24_2_1
      have t34_3_1 : ¬ (0 ≤ ((p0 : Nat) : Int) ∧ ((p0 : Nat) : Int) < (h 146 s0)) := t34_3_1
      show Aj γ mL_law d mc ms Post 1278 [(0, vK 0), (1, vA 0), (2, vA 123), (3, vI ((i : Nat) : Int))] [vI (-1000000013)] (mk h τ)
      refine a_aload_n (j := 2) dL_law_1278 rfl rfl (Nat.le_of_ble_eq_true rfl) ?_
      refine a_aload_n (j := 0) dL_law_1279 rfl rfl (Nat.le_of_ble_eq_true rfl) ?_
      refine a_iload_n (j := 3) dL_law_1280 rfl rfl ?_
      refine a_iconst dL_law_1281 ⟨by decide, by decide⟩ ?_
      refine a_iadd (z := (((i : Nat) : Int) + 1)) dL_law_1282 (w_ok (by omega) (by omega)) ?_
      refine a_sld (i + 1) dL_law_1283 (by omega) (by omega) ?_
      rw [ha1]
      refine a_aload_n (j := 0) dL_law_1284 rfl rfl (Nat.le_of_ble_eq_true rfl) ?_
      refine a_iload_n (j := 3) dL_law_1285 rfl rfl ?_
      refine a_iconst dL_law_1286 ⟨by decide, by decide⟩ ?_
      refine a_iadd (z := (((i : Nat) : Int) + 2)) dL_law_1287 (w_ok (by omega) (by omega)) ?_
      refine a_sld (i + 2) dL_law_1288 (by omega) (by omega) ?_
      rw [ha2]
      refine a_aload_n (j := 0) dL_law_1289 rfl rfl (Nat.le_of_ble_eq_true rfl) ?_
      refine a_iload_n (j := 3) dL_law_1290 rfl rfl ?_
      refine a_iconst dL_law_1291 ⟨by decide, by decide⟩ ?_
      refine a_iadd (z := (((i : Nat) : Int) + 3)) dL_law_1292 (w_ok (by omega) (by omega)) ?_
      refine a_sld (i + 3) dL_law_1293 (by omega) (by omega) ?_
      rw [ha3]
      refine b_callV (d' := d - 1) (mc' := 0) (ms' := 0) (mc1 := mc) (ms1 := ms) (st := [vI (-1000000013)]) (b := 123) [vI ((s0 : Nat) : Int), vI ((p0 : Nat) : Int), vI a3] dL_law_1294 mwX9_mark lkL_158 (by decide) rfl rc_X9 rfl (Nat.le_of_ble_eq_true rfl) (by omega) (by omega) (by omega) (c_X9_mark (v1 := (h 146 s0)) (v2 := (h 145 s0)) (by omega)  rfl rfl (show Im ((s0 : Nat) : Int) 4 (0 ≤ (h 146 s0) ∧ (h 146 s0) ≤ 24) from fun _ _ => (by omega)) (fun t1_1_13 c16_3_13 t33_5_13 c49_7_13 c68_9_13 c109_11_13 => ?_) (fun t1_1_13 c16_3_13 t33_5_13 c49_7_13 c68_9_13 c74_12_13 c109_14_13 => ?_) (fun t1_1_13 c16_3_13 t33_5_13 c49_7_13 c68_9_13 c74_12_13 t84_15_13 c109_17_13 => ?_) (fun t1_1_13 c16_3_13 t33_5_13 c49_7_13 c68_9_13 c74_12_13 t84_15_13 => ?_) (fun t1_1_13 c16_3_13 t33_5_13 c49_7_13 c55_18_13 c68_20_13 c109_22_13 => ?_) (fun t1_1_13 c16_3_13 t33_5_13 c49_7_13 c55_18_13 => ?_) (fun t1_1_13 c16_3_13 t33_5_13 => ?_) (fun t1_1_13 c16_3_13 => ?_) (fun t1_1_13 => ?_))
      · have t1_1_13 : 0 ≤ ((s0 : Nat) : Int) ∧ ((s0 : Nat) : Int) ≤ 3 := t1_1_13
        have c16_3_13 : 0 ≤ (h 145 s0) := c16_3_13
        have t33_5_13 : 0 ≤ ((p0 : Nat) : Int) ∧ ((p0 : Nat) : Int) ≤ ((h 146 s0) - 1) := t33_5_13
        have c49_7_13 : ¬ (h 145 s0) = 0 := c49_7_13
        have c68_9_13 : ¬ (h 145 s0) = 1 := c68_9_13
        have c109_11_13 : ¬ (h 145 s0) = 0 := c109_11_13
        show Aj γ mL_law d mc ms Post 1297 [(0, vK 0), (1, vA 0), (2, vA 123), (3, vI ((i : Nat) : Int))] [vI 1, vI (-1000000013)] (mk (up2 h 147 (Int.toNat ((24 * ((s0 : Nat) : Int)) + ((p0 : Nat) : Int))) a3) τ)
        refine a_icmp_eq (tgt := 1668) dL_law_1297 (by decide) (fun c => absurd c (by decide)) (fun _ => ?_)
        refine a_iconst dL_law_1300 ⟨by decide, by decide⟩ ?_
        exact a_zret dL_law_1301 rfl (by first | exact Or.inl rfl | exact Or.inr rfl | omega) (by exfalso; omega)
      · have t1_1_13 : 0 ≤ ((s0 : Nat) : Int) ∧ ((s0 : Nat) : Int) ≤ 3 := t1_1_13
        have c16_3_13 : 0 ≤ (h 145 s0) := c16_3_13
        have t33_5_13 : 0 ≤ ((p0 : Nat) : Int) ∧ ((p0 : Nat) : Int) ≤ ((h 146 s0) - 1) := t33_5_13
        have c49_7_13 : ¬ (h 145 s0) = 0 := c49_7_13
        have c68_9_13 : (h 145 s0) = 1 := c68_9_13
        have c74_12_13 : a3 = (-1000000005) := c74_12_13
        have c109_14_13 : ¬ (h 145 s0) = 0 := c109_14_13
        show Aj γ mL_law d mc ms Post 1297 [(0, vK 0), (1, vA 0), (2, vA 123), (3, vI ((i : Nat) : Int))] [vI 1, vI (-1000000013)] (mk (up2 h 147 (Int.toNat ((24 * ((s0 : Nat) : Int)) + ((p0 : Nat) : Int))) a3) τ)
        refine a_icmp_eq (tgt := 1668) dL_law_1297 (by decide) (fun c => absurd c (by decide)) (fun _ => ?_)
        refine a_iconst dL_law_1300 ⟨by decide, by decide⟩ ?_
        exact a_zret dL_law_1301 rfl (by first | exact Or.inl rfl | exact Or.inr rfl | omega) (by exfalso; omega)
      · have t1_1_13 : 0 ≤ ((s0 : Nat) : Int) ∧ ((s0 : Nat) : Int) ≤ 3 := t1_1_13
        have c16_3_13 : 0 ≤ (h 145 s0) := c16_3_13
        have t33_5_13 : 0 ≤ ((p0 : Nat) : Int) ∧ ((p0 : Nat) : Int) ≤ ((h 146 s0) - 1) := t33_5_13
        have c49_7_13 : ¬ (h 145 s0) = 0 := c49_7_13
        have c68_9_13 : (h 145 s0) = 1 := c68_9_13
        have c74_12_13 : ¬ a3 = (-1000000005) := c74_12_13
        have t84_15_13 : (-99999) ≤ a3 ∧ a3 ≤ 99999 := t84_15_13
        have c109_17_13 : ¬ (h 145 s0) = 0 := c109_17_13
        show Aj γ mL_law d mc ms Post 1297 [(0, vK 0), (1, vA 0), (2, vA 123), (3, vI ((i : Nat) : Int))] [vI 1, vI (-1000000013)] (mk (up2 h 147 (Int.toNat ((24 * ((s0 : Nat) : Int)) + ((p0 : Nat) : Int))) a3) τ)
        refine a_icmp_eq (tgt := 1668) dL_law_1297 (by decide) (fun c => absurd c (by decide)) (fun _ => ?_)
        refine a_iconst dL_law_1300 ⟨by decide, by decide⟩ ?_
        exact a_zret dL_law_1301 rfl (by first | exact Or.inl rfl | exact Or.inr rfl | omega) (by exfalso; omega)
      · have t1_1_13 : 0 ≤ ((s0 : Nat) : Int) ∧ ((s0 : Nat) : Int) ≤ 3 := t1_1_13
        have c16_3_13 : 0 ≤ (h 145 s0) := c16_3_13
        have t33_5_13 : 0 ≤ ((p0 : Nat) : Int) ∧ ((p0 : Nat) : Int) ≤ ((h 146 s0) - 1) := t33_5_13
        have c49_7_13 : ¬ (h 145 s0) = 0 := c49_7_13
        have c68_9_13 : (h 145 s0) = 1 := c68_9_13
        have c74_12_13 : ¬ a3 = (-1000000005) := c74_12_13
        have t84_15_13 : ¬ ((-99999) ≤ a3 ∧ a3 ≤ 99999) := t84_15_13
        show Aj γ mL_law d mc ms Post 1297 [(0, vK 0), (1, vA 0), (2, vA 123), (3, vI ((i : Nat) : Int))] [vI (-1000000001), vI (-1000000013)] (mk h τ)
        refine a_icmp_eq (tgt := 1668) dL_law_1297 (by decide) (fun c => absurd c (by decide)) (fun _ => ?_)
        refine a_iconst dL_law_1300 ⟨by decide, by decide⟩ ?_
        exact a_zret dL_law_1301 rfl (by first | exact Or.inl rfl | exact Or.inr rfl | omega) (by exfalso; omega)
      · have t1_1_13 : 0 ≤ ((s0 : Nat) : Int) ∧ ((s0 : Nat) : Int) ≤ 3 := t1_1_13
        have c16_3_13 : 0 ≤ (h 145 s0) := c16_3_13
        have t33_5_13 : 0 ≤ ((p0 : Nat) : Int) ∧ ((p0 : Nat) : Int) ≤ ((h 146 s0) - 1) := t33_5_13
        have c49_7_13 : (h 145 s0) = 0 := c49_7_13
        have c55_18_13 : ¬ a3 = (-1000000005) := c55_18_13
        have c68_20_13 : ¬ (h 145 s0) = 1 := c68_20_13
        have c109_22_13 : (h 145 s0) = 0 := c109_22_13
        show Aj γ mL_law d mc ms Post 1297 [(0, vK 0), (1, vA 0), (2, vA 123), (3, vI ((i : Nat) : Int))] [vI 1, vI (-1000000013)] (mk (up2 h 147 (Int.toNat ((24 * ((s0 : Nat) : Int)) + ((p0 : Nat) : Int))) (s16 a3)) τ)
        refine a_icmp_eq (tgt := 1668) dL_law_1297 (by decide) (fun c => absurd c (by decide)) (fun _ => ?_)
        refine a_iconst dL_law_1300 ⟨by decide, by decide⟩ ?_
        exact a_zret dL_law_1301 rfl (by first | exact Or.inl rfl | exact Or.inr rfl | omega) (by exfalso; omega)
      · have t1_1_13 : 0 ≤ ((s0 : Nat) : Int) ∧ ((s0 : Nat) : Int) ≤ 3 := t1_1_13
        have c16_3_13 : 0 ≤ (h 145 s0) := c16_3_13
        have t33_5_13 : 0 ≤ ((p0 : Nat) : Int) ∧ ((p0 : Nat) : Int) ≤ ((h 146 s0) - 1) := t33_5_13
        have c49_7_13 : (h 145 s0) = 0 := c49_7_13
        have c55_18_13 : a3 = (-1000000005) := c55_18_13
        show Aj γ mL_law d mc ms Post 1297 [(0, vK 0), (1, vA 0), (2, vA 123), (3, vI ((i : Nat) : Int))] [vI (-1000000012), vI (-1000000013)] (mk h τ)
        refine a_icmp_eq (tgt := 1668) dL_law_1297 (by decide) (fun c => absurd c (by decide)) (fun _ => ?_)
        refine a_iconst dL_law_1300 ⟨by decide, by decide⟩ ?_
        exact a_zret dL_law_1301 rfl (by first | exact Or.inl rfl | exact Or.inr rfl | omega) (by exfalso; omega)
      · have t1_1_13 : 0 ≤ ((s0 : Nat) : Int) ∧ ((s0 : Nat) : Int) ≤ 3 := t1_1_13
        have c16_3_13 : 0 ≤ (h 145 s0) := c16_3_13
        have t33_5_13 : ¬ (0 ≤ ((p0 : Nat) : Int) ∧ ((p0 : Nat) : Int) ≤ ((h 146 s0) - 1)) := t33_5_13
        show Aj γ mL_law d mc ms Post 1297 [(0, vK 0), (1, vA 0), (2, vA 123), (3, vI ((i : Nat) : Int))] [vI (-1000000013), vI (-1000000013)] (mk h τ)
        refine a_icmp_eq (tgt := 1668) dL_law_1297 (by decide) (fun _ => ?_) (fun c => absurd c (by decide))
        exact kE h N J (IV_up (by omega) hI)
      · have t1_1_13 : 0 ≤ ((s0 : Nat) : Int) ∧ ((s0 : Nat) : Int) ≤ 3 := t1_1_13
        have c16_3_13 : ¬ 0 ≤ (h 145 s0) := c16_3_13
        show Aj γ mL_law d mc ms Post 1297 [(0, vK 0), (1, vA 0), (2, vA 123), (3, vI ((i : Nat) : Int))] [vI (-1000000011), vI (-1000000013)] (mk h τ)
        refine a_icmp_eq (tgt := 1668) dL_law_1297 (by decide) (fun c => absurd c (by decide)) (fun _ => ?_)
        refine a_iconst dL_law_1300 ⟨by decide, by decide⟩ ?_
        exact a_zret dL_law_1301 rfl (by first | exact Or.inl rfl | exact Or.inr rfl | omega) (by exfalso; omega)
      · exfalso
        omega
    · have t1_1_1 : 0 ≤ ((s0 : Nat) : Int) ∧ ((s0 : Nat) : Int) ≤ 3 := t1_1_1
      have c24_2_1 : (h 145 s0) = (-1) := c24_2_1
      show Aj γ mL_law d mc ms Post 1278 [(0, vK 0), (1, vA 0), (2, vA 123), (3, vI ((i : Nat) : Int))] [vI (-1000000011)] (mk h τ)
      refine a_aload_n (j := 2) dL_law_1278 rfl rfl (Nat.le_of_ble_eq_true rfl) ?_
      refine a_aload_n (j := 0) dL_law_1279 rfl rfl (Nat.le_of_ble_eq_true rfl) ?_
      refine a_iload_n (j := 3) dL_law_1280 rfl rfl ?_
      refine a_iconst dL_law_1281 ⟨by decide, by decide⟩ ?_
      refine a_iadd (z := (((i : Nat) : Int) + 1)) dL_law_1282 (w_ok (by omega) (by omega)) ?_
      refine a_sld (i + 1) dL_law_1283 (by omega) (by omega) ?_
      rw [ha1]
      refine a_aload_n (j := 0) dL_law_1284 rfl rfl (Nat.le_of_ble_eq_true rfl) ?_
      refine a_iload_n (j := 3) dL_law_1285 rfl rfl ?_
      refine a_iconst dL_law_1286 ⟨by decide, by decide⟩ ?_
      refine a_iadd (z := (((i : Nat) : Int) + 2)) dL_law_1287 (w_ok (by omega) (by omega)) ?_
      refine a_sld (i + 2) dL_law_1288 (by omega) (by omega) ?_
      rw [ha2]
      refine a_aload_n (j := 0) dL_law_1289 rfl rfl (Nat.le_of_ble_eq_true rfl) ?_
      refine a_iload_n (j := 3) dL_law_1290 rfl rfl ?_
      refine a_iconst dL_law_1291 ⟨by decide, by decide⟩ ?_
      refine a_iadd (z := (((i : Nat) : Int) + 3)) dL_law_1292 (w_ok (by omega) (by omega)) ?_
      refine a_sld (i + 3) dL_law_1293 (by omega) (by omega) ?_
      rw [ha3]
      refine b_callV (d' := d - 1) (mc' := 0) (ms' := 0) (mc1 := mc) (ms1 := ms) (st := [vI (-1000000011)]) (b := 123) [vI ((s0 : Nat) : Int), vI ((p0 : Nat) : Int), vI a3] dL_law_1294 mwX9_mark lkL_158 (by decide) rfl rc_X9 rfl (Nat.le_of_ble_eq_true rfl) (by omega) (by omega) (by omega) (c_X9_mark (v1 := (h 146 s0)) (v2 := (h 145 s0)) (by omega)  rfl rfl (show Im ((s0 : Nat) : Int) 4 (0 ≤ (h 146 s0) ∧ (h 146 s0) ≤ 24) from fun _ _ => (by omega)) (fun t1_1_15 c16_3_15 t33_5_15 c49_7_15 c68_9_15 c109_11_15 => ?_) (fun t1_1_15 c16_3_15 t33_5_15 c49_7_15 c68_9_15 c74_12_15 c109_14_15 => ?_) (fun t1_1_15 c16_3_15 t33_5_15 c49_7_15 c68_9_15 c74_12_15 t84_15_15 c109_17_15 => ?_) (fun t1_1_15 c16_3_15 t33_5_15 c49_7_15 c68_9_15 c74_12_15 t84_15_15 => ?_) (fun t1_1_15 c16_3_15 t33_5_15 c49_7_15 c55_18_15 c68_20_15 c109_22_15 => ?_) (fun t1_1_15 c16_3_15 t33_5_15 c49_7_15 c55_18_15 => ?_) (fun t1_1_15 c16_3_15 t33_5_15 => ?_) (fun t1_1_15 c16_3_15 => ?_) (fun t1_1_15 => ?_))
      · have t1_1_15 : 0 ≤ ((s0 : Nat) : Int) ∧ ((s0 : Nat) : Int) ≤ 3 := t1_1_15
        have c16_3_15 : 0 ≤ (h 145 s0) := c16_3_15
        have t33_5_15 : 0 ≤ ((p0 : Nat) : Int) ∧ ((p0 : Nat) : Int) ≤ ((h 146 s0) - 1) := t33_5_15
        have c49_7_15 : ¬ (h 145 s0) = 0 := c49_7_15
        have c68_9_15 : ¬ (h 145 s0) = 1 := c68_9_15
        have c109_11_15 : ¬ (h 145 s0) = 0 := c109_11_15
        show Aj γ mL_law d mc ms Post 1297 [(0, vK 0), (1, vA 0), (2, vA 123), (3, vI ((i : Nat) : Int))] [vI 1, vI (-1000000011)] (mk (up2 h 147 (Int.toNat ((24 * ((s0 : Nat) : Int)) + ((p0 : Nat) : Int))) a3) τ)
        refine a_icmp_eq (tgt := 1668) dL_law_1297 (by decide) (fun c => absurd c (by decide)) (fun _ => ?_)
        refine a_iconst dL_law_1300 ⟨by decide, by decide⟩ ?_
        exact a_zret dL_law_1301 rfl (by first | exact Or.inl rfl | exact Or.inr rfl | omega) (by exfalso; omega)
      · exfalso
        omega
      · exfalso
        omega
      · exfalso
        omega
      · exfalso
        omega
      · exfalso
        omega
      · have t1_1_15 : 0 ≤ ((s0 : Nat) : Int) ∧ ((s0 : Nat) : Int) ≤ 3 := t1_1_15
        have c16_3_15 : 0 ≤ (h 145 s0) := c16_3_15
        have t33_5_15 : ¬ (0 ≤ ((p0 : Nat) : Int) ∧ ((p0 : Nat) : Int) ≤ ((h 146 s0) - 1)) := t33_5_15
        show Aj γ mL_law d mc ms Post 1297 [(0, vK 0), (1, vA 0), (2, vA 123), (3, vI ((i : Nat) : Int))] [vI (-1000000013), vI (-1000000011)] (mk h τ)
        refine a_icmp_eq (tgt := 1668) dL_law_1297 (by decide) (fun c => absurd c (by decide)) (fun _ => ?_)
        refine a_iconst dL_law_1300 ⟨by decide, by decide⟩ ?_
        exact a_zret dL_law_1301 rfl (by first | exact Or.inl rfl | exact Or.inr rfl | omega) (by exfalso; omega)
      · have t1_1_15 : 0 ≤ ((s0 : Nat) : Int) ∧ ((s0 : Nat) : Int) ≤ 3 := t1_1_15
        have c16_3_15 : ¬ 0 ≤ (h 145 s0) := c16_3_15
        show Aj γ mL_law d mc ms Post 1297 [(0, vK 0), (1, vA 0), (2, vA 123), (3, vI ((i : Nat) : Int))] [vI (-1000000011), vI (-1000000011)] (mk h τ)
        refine a_icmp_eq (tgt := 1668) dL_law_1297 (by decide) (fun _ => ?_) (fun c => absurd c (by decide))
        exact kE h N J (IV_up (by omega) hI)
      · exfalso
        omega
    · exfalso
      omega
  · obtain ⟨s0, rfl⟩ : ∃ z : Nat, a1 = (z : Int) := ⟨Int.toNat a1, by omega⟩
    obtain ⟨k0, k1, k2, k3, k4⟩ := hO.2.1 s0 (by omega)
    refine a_aload_n (j := 1) dL_law_1259 rfl rfl (Nat.le_of_ble_eq_true rfl) ?_
    refine a_aload_n (j := 0) dL_law_1260 rfl rfl (Nat.le_of_ble_eq_true rfl) ?_
    refine a_iload_n (j := 3) dL_law_1261 rfl rfl ?_
    refine a_iconst dL_law_1262 ⟨by decide, by decide⟩ ?_
    refine a_iadd (z := (((i : Nat) : Int) + 1)) dL_law_1263 (w_ok (by omega) (by omega)) ?_
    refine a_sld (i + 1) dL_law_1264 (by omega) (by omega) ?_
    rw [ha1]
    refine a_aload_n (j := 0) dL_law_1265 rfl rfl (Nat.le_of_ble_eq_true rfl) ?_
    refine a_iload_n (j := 3) dL_law_1266 rfl rfl ?_
    refine a_iconst dL_law_1267 ⟨by decide, by decide⟩ ?_
    refine a_iadd (z := (((i : Nat) : Int) + 2)) dL_law_1268 (w_ok (by omega) (by omega)) ?_
    refine a_sld (i + 2) dL_law_1269 (by omega) (by omega) ?_
    rw [ha2]
    refine a_aload_n (j := 0) dL_law_1270 rfl rfl (Nat.le_of_ble_eq_true rfl) ?_
    refine a_iload_n (j := 3) dL_law_1271 rfl rfl ?_
    refine a_iconst dL_law_1272 ⟨by decide, by decide⟩ ?_
    refine a_iadd (z := (((i : Nat) : Int) + 3)) dL_law_1273 (w_ok (by omega) (by omega)) ?_
    refine a_sld (i + 3) dL_law_1274 (by omega) (by omega) ?_
    rw [ha3]
    refine b_callV (d' := d - 1) (mc' := 0) (ms' := 0) (mc1 := mc) (ms1 := ms) (st := []) (b := 0) [vI ((s0 : Nat) : Int), vI a2, vI a3] dL_law_1275 mwX8_mark lkL_155 (by decide) rfl rc_X8 rfl (Nat.le_of_ble_eq_true rfl) (by omega) (by omega) (by omega) (c_X8_mark (v1 := (h 146 s0)) (v2 := (h 145 s0)) (by omega)  k1 k0 (show Im ((s0 : Nat) : Int) 4 (0 ≤ (h 146 s0) ∧ (h 146 s0) ≤ 24) from fun _ _ => (by omega)) (fun t1_1_1 c24_2_1 t34_3_1 c49_4_1 c75_5_1 => ?_) (fun t1_1_1 c24_2_1 t34_3_1 c49_4_1 c75_5_1 t85_6_1 => ?_) (fun t1_1_1 c24_2_1 t34_3_1 c49_4_1 c75_5_1 t85_6_1 => ?_) (fun t1_1_1 c24_2_1 t34_3_1 c49_4_1 c55_7_1 => ?_) (fun t1_1_1 c24_2_1 t34_3_1 c49_4_1 c55_7_1 => ?_) (fun t1_1_1 c24_2_1 t34_3_1 => ?_) (fun t1_1_1 c24_2_1 => ?_) (fun t1_1_1 => ?_))
    · have t1_1_1 : 0 ≤ ((s0 : Nat) : Int) ∧ ((s0 : Nat) : Int) ≤ 3 := t1_1_1
      have c24_2_1 : ¬ (h 145 s0) = (-1) := c24_2_1
      have t34_3_1 : 0 ≤ a2 ∧ a2 < (h 146 s0) := t34_3_1
      have c49_4_1 : ¬ (h 145 s0) = 0 := c49_4_1
      have c75_5_1 : a3 = (-1000000005) := c75_5_1
      show Aj γ mL_law d mc ms Post 1278 [(0, vK 0), (1, vA 0), (2, vA 123), (3, vI ((i : Nat) : Int))] [vI 1] (mk (up2 h ((90 + 2 * s0) + 1) (Int.toNat a2) a3) τ)
      refine a_aload_n (j := 2) dL_law_1278 rfl rfl (Nat.le_of_ble_eq_true rfl) ?_
      refine a_aload_n (j := 0) dL_law_1279 rfl rfl (Nat.le_of_ble_eq_true rfl) ?_
      refine a_iload_n (j := 3) dL_law_1280 rfl rfl ?_
      refine a_iconst dL_law_1281 ⟨by decide, by decide⟩ ?_
      refine a_iadd (z := (((i : Nat) : Int) + 1)) dL_law_1282 (w_ok (by omega) (by omega)) ?_
      refine a_sld (i + 1) dL_law_1283 (by omega) (by omega) ?_
      rw [ha1]
      refine a_aload_n (j := 0) dL_law_1284 rfl rfl (Nat.le_of_ble_eq_true rfl) ?_
      refine a_iload_n (j := 3) dL_law_1285 rfl rfl ?_
      refine a_iconst dL_law_1286 ⟨by decide, by decide⟩ ?_
      refine a_iadd (z := (((i : Nat) : Int) + 2)) dL_law_1287 (w_ok (by omega) (by omega)) ?_
      refine a_sld (i + 2) dL_law_1288 (by omega) (by omega) ?_
      rw [ha2]
      refine a_aload_n (j := 0) dL_law_1289 rfl rfl (Nat.le_of_ble_eq_true rfl) ?_
      refine a_iload_n (j := 3) dL_law_1290 rfl rfl ?_
      refine a_iconst dL_law_1291 ⟨by decide, by decide⟩ ?_
      refine a_iadd (z := (((i : Nat) : Int) + 3)) dL_law_1292 (w_ok (by omega) (by omega)) ?_
      refine a_sld (i + 3) dL_law_1293 (by omega) (by omega) ?_
      rw [ha3]
      refine b_callV (d' := d - 1) (mc' := 0) (ms' := 0) (mc1 := mc) (ms1 := ms) (st := [vI 1]) (b := 123) [vI ((s0 : Nat) : Int), vI a2, vI a3] dL_law_1294 mwX9_mark lkL_158 (by decide) rfl rc_X9 rfl (Nat.le_of_ble_eq_true rfl) (by omega) (by omega) (by omega) (c_X9_mark (v1 := (h 146 s0)) (v2 := (h 145 s0)) (by omega)  ((up2_ne (by omega)).trans rfl) ((up2_ne (by omega)).trans rfl) (show Im ((s0 : Nat) : Int) 4 (0 ≤ (h 146 s0) ∧ (h 146 s0) ≤ 24) from fun _ _ => (by omega)) (fun t1_1_3 c16_3_3 t33_5_3 c49_7_3 c68_9_3 c109_11_3 => ?_) (fun t1_1_3 c16_3_3 t33_5_3 c49_7_3 c68_9_3 c74_12_3 c109_14_3 => ?_) (fun t1_1_3 c16_3_3 t33_5_3 c49_7_3 c68_9_3 c74_12_3 t84_15_3 c109_17_3 => ?_) (fun t1_1_3 c16_3_3 t33_5_3 c49_7_3 c68_9_3 c74_12_3 t84_15_3 => ?_) (fun t1_1_3 c16_3_3 t33_5_3 c49_7_3 c55_18_3 c68_20_3 c109_22_3 => ?_) (fun t1_1_3 c16_3_3 t33_5_3 c49_7_3 c55_18_3 => ?_) (fun t1_1_3 c16_3_3 t33_5_3 => ?_) (fun t1_1_3 c16_3_3 => ?_) (fun t1_1_3 => ?_))
      · have t1_1_3 : 0 ≤ ((s0 : Nat) : Int) ∧ ((s0 : Nat) : Int) ≤ 3 := t1_1_3
        have c16_3_3 : 0 ≤ (h 145 s0) := c16_3_3
        have t33_5_3 : 0 ≤ a2 ∧ a2 ≤ ((h 146 s0) - 1) := t33_5_3
        have c49_7_3 : ¬ (h 145 s0) = 0 := c49_7_3
        have c68_9_3 : ¬ (h 145 s0) = 1 := c68_9_3
        have c109_11_3 : ¬ (h 145 s0) = 0 := c109_11_3
        show Aj γ mL_law d mc ms Post 1297 [(0, vK 0), (1, vA 0), (2, vA 123), (3, vI ((i : Nat) : Int))] [vI 1, vI 1] (mk (up2 (up2 h ((90 + 2 * s0) + 1) (Int.toNat a2) a3) 147 (Int.toNat ((24 * ((s0 : Nat) : Int)) + a2)) a3) τ)
        refine a_icmp_eq (tgt := 1668) dL_law_1297 (by decide) (fun _ => ?_) (fun c => absurd c (by decide))
        exfalso
        omega
      · have t1_1_3 : 0 ≤ ((s0 : Nat) : Int) ∧ ((s0 : Nat) : Int) ≤ 3 := t1_1_3
        have c16_3_3 : 0 ≤ (h 145 s0) := c16_3_3
        have t33_5_3 : 0 ≤ a2 ∧ a2 ≤ ((h 146 s0) - 1) := t33_5_3
        have c49_7_3 : ¬ (h 145 s0) = 0 := c49_7_3
        have c68_9_3 : (h 145 s0) = 1 := c68_9_3
        have c74_12_3 : a3 = (-1000000005) := c74_12_3
        have c109_14_3 : ¬ (h 145 s0) = 0 := c109_14_3
        show Aj γ mL_law d mc ms Post 1297 [(0, vK 0), (1, vA 0), (2, vA 123), (3, vI ((i : Nat) : Int))] [vI 1, vI 1] (mk (up2 (up2 h ((90 + 2 * s0) + 1) (Int.toNat a2) a3) 147 (Int.toNat ((24 * ((s0 : Nat) : Int)) + a2)) a3) τ)
        refine a_icmp_eq (tgt := 1668) dL_law_1297 (by decide) (fun _ => ?_) (fun c => absurd c (by decide))
        exfalso
        omega
      · exfalso
        omega
      · exfalso
        omega
      · exfalso
        omega
      · exfalso
        omega
      · have t1_1_3 : 0 ≤ ((s0 : Nat) : Int) ∧ ((s0 : Nat) : Int) ≤ 3 := t1_1_3
        have c16_3_3 : 0 ≤ (h 145 s0) := c16_3_3
        have t33_5_3 : ¬ (0 ≤ a2 ∧ a2 ≤ ((h 146 s0) - 1)) := t33_5_3
        show Aj γ mL_law d mc ms Post 1297 [(0, vK 0), (1, vA 0), (2, vA 123), (3, vI ((i : Nat) : Int))] [vI (-1000000013), vI 1] (mk (up2 h ((90 + 2 * s0) + 1) (Int.toNat a2) a3) τ)
        refine a_icmp_eq (tgt := 1668) dL_law_1297 (by decide) (fun c => absurd c (by decide)) (fun _ => ?_)
        refine a_iconst dL_law_1300 ⟨by decide, by decide⟩ ?_
        exact a_zret dL_law_1301 rfl (by first | exact Or.inl rfl | exact Or.inr rfl | omega) (by exfalso; omega)
      · have t1_1_3 : 0 ≤ ((s0 : Nat) : Int) ∧ ((s0 : Nat) : Int) ≤ 3 := t1_1_3
        have c16_3_3 : ¬ 0 ≤ (h 145 s0) := c16_3_3
        show Aj γ mL_law d mc ms Post 1297 [(0, vK 0), (1, vA 0), (2, vA 123), (3, vI ((i : Nat) : Int))] [vI (-1000000011), vI 1] (mk (up2 h ((90 + 2 * s0) + 1) (Int.toNat a2) a3) τ)
        refine a_icmp_eq (tgt := 1668) dL_law_1297 (by decide) (fun c => absurd c (by decide)) (fun _ => ?_)
        refine a_iconst dL_law_1300 ⟨by decide, by decide⟩ ?_
        exact a_zret dL_law_1301 rfl (by first | exact Or.inl rfl | exact Or.inr rfl | omega) (by exfalso; omega)
      · exfalso
        omega
    · have t1_1_1 : 0 ≤ ((s0 : Nat) : Int) ∧ ((s0 : Nat) : Int) ≤ 3 := t1_1_1
      have c24_2_1 : ¬ (h 145 s0) = (-1) := c24_2_1
      have t34_3_1 : 0 ≤ a2 ∧ a2 < (h 146 s0) := t34_3_1
      have c49_4_1 : ¬ (h 145 s0) = 0 := c49_4_1
      have c75_5_1 : ¬ a3 = (-1000000005) := c75_5_1
      have t85_6_1 : (-99999) ≤ a3 ∧ a3 ≤ 99999 := t85_6_1
      show Aj γ mL_law d mc ms Post 1278 [(0, vK 0), (1, vA 0), (2, vA 123), (3, vI ((i : Nat) : Int))] [vI 1] (mk (up2 h ((90 + 2 * s0) + 1) (Int.toNat a2) a3) τ)
      refine a_aload_n (j := 2) dL_law_1278 rfl rfl (Nat.le_of_ble_eq_true rfl) ?_
      refine a_aload_n (j := 0) dL_law_1279 rfl rfl (Nat.le_of_ble_eq_true rfl) ?_
      refine a_iload_n (j := 3) dL_law_1280 rfl rfl ?_
      refine a_iconst dL_law_1281 ⟨by decide, by decide⟩ ?_
      refine a_iadd (z := (((i : Nat) : Int) + 1)) dL_law_1282 (w_ok (by omega) (by omega)) ?_
      refine a_sld (i + 1) dL_law_1283 (by omega) (by omega) ?_
      rw [ha1]
      refine a_aload_n (j := 0) dL_law_1284 rfl rfl (Nat.le_of_ble_eq_true rfl) ?_
      refine a_iload_n (j := 3) dL_law_1285 rfl rfl ?_
      refine a_iconst dL_law_1286 ⟨by decide, by decide⟩ ?_
      refine a_iadd (z := (((i : Nat) : Int) + 2)) dL_law_1287 (w_ok (by omega) (by omega)) ?_
      refine a_sld (i + 2) dL_law_1288 (by omega) (by omega) ?_
      rw [ha2]
      refine a_aload_n (j := 0) dL_law_1289 rfl rfl (Nat.le_of_ble_eq_true rfl) ?_
      refine a_iload_n (j := 3) dL_law_1290 rfl rfl ?_
      refine a_iconst dL_law_1291 ⟨by decide, by decide⟩ ?_
      refine a_iadd (z := (((i : Nat) : Int) + 3)) dL_law_1292 (w_ok (by omega) (by omega)) ?_
      refine a_sld (i + 3) dL_law_1293 (by omega) (by omega) ?_
      rw [ha3]
      refine b_callV (d' := d - 1) (mc' := 0) (ms' := 0) (mc1 := mc) (ms1 := ms) (st := [vI 1]) (b := 123) [vI ((s0 : Nat) : Int), vI a2, vI a3] dL_law_1294 mwX9_mark lkL_158 (by decide) rfl rc_X9 rfl (Nat.le_of_ble_eq_true rfl) (by omega) (by omega) (by omega) (c_X9_mark (v1 := (h 146 s0)) (v2 := (h 145 s0)) (by omega)  ((up2_ne (by omega)).trans rfl) ((up2_ne (by omega)).trans rfl) (show Im ((s0 : Nat) : Int) 4 (0 ≤ (h 146 s0) ∧ (h 146 s0) ≤ 24) from fun _ _ => (by omega)) (fun t1_1_5 c16_3_5 t33_5_5 c49_7_5 c68_9_5 c109_11_5 => ?_) (fun t1_1_5 c16_3_5 t33_5_5 c49_7_5 c68_9_5 c74_12_5 c109_14_5 => ?_) (fun t1_1_5 c16_3_5 t33_5_5 c49_7_5 c68_9_5 c74_12_5 t84_15_5 c109_17_5 => ?_) (fun t1_1_5 c16_3_5 t33_5_5 c49_7_5 c68_9_5 c74_12_5 t84_15_5 => ?_) (fun t1_1_5 c16_3_5 t33_5_5 c49_7_5 c55_18_5 c68_20_5 c109_22_5 => ?_) (fun t1_1_5 c16_3_5 t33_5_5 c49_7_5 c55_18_5 => ?_) (fun t1_1_5 c16_3_5 t33_5_5 => ?_) (fun t1_1_5 c16_3_5 => ?_) (fun t1_1_5 => ?_))
      · have t1_1_5 : 0 ≤ ((s0 : Nat) : Int) ∧ ((s0 : Nat) : Int) ≤ 3 := t1_1_5
        have c16_3_5 : 0 ≤ (h 145 s0) := c16_3_5
        have t33_5_5 : 0 ≤ a2 ∧ a2 ≤ ((h 146 s0) - 1) := t33_5_5
        have c49_7_5 : ¬ (h 145 s0) = 0 := c49_7_5
        have c68_9_5 : ¬ (h 145 s0) = 1 := c68_9_5
        have c109_11_5 : ¬ (h 145 s0) = 0 := c109_11_5
        show Aj γ mL_law d mc ms Post 1297 [(0, vK 0), (1, vA 0), (2, vA 123), (3, vI ((i : Nat) : Int))] [vI 1, vI 1] (mk (up2 (up2 h ((90 + 2 * s0) + 1) (Int.toNat a2) a3) 147 (Int.toNat ((24 * ((s0 : Nat) : Int)) + a2)) a3) τ)
        refine a_icmp_eq (tgt := 1668) dL_law_1297 (by decide) (fun _ => ?_) (fun c => absurd c (by decide))
        exfalso
        omega
      · exfalso
        omega
      · have t1_1_5 : 0 ≤ ((s0 : Nat) : Int) ∧ ((s0 : Nat) : Int) ≤ 3 := t1_1_5
        have c16_3_5 : 0 ≤ (h 145 s0) := c16_3_5
        have t33_5_5 : 0 ≤ a2 ∧ a2 ≤ ((h 146 s0) - 1) := t33_5_5
        have c49_7_5 : ¬ (h 145 s0) = 0 := c49_7_5
        have c68_9_5 : (h 145 s0) = 1 := c68_9_5
        have c74_12_5 : ¬ a3 = (-1000000005) := c74_12_5
        have t84_15_5 : (-99999) ≤ a3 ∧ a3 ≤ 99999 := t84_15_5
        have c109_17_5 : ¬ (h 145 s0) = 0 := c109_17_5
        show Aj γ mL_law d mc ms Post 1297 [(0, vK 0), (1, vA 0), (2, vA 123), (3, vI ((i : Nat) : Int))] [vI 1, vI 1] (mk (up2 (up2 h ((90 + 2 * s0) + 1) (Int.toNat a2) a3) 147 (Int.toNat ((24 * ((s0 : Nat) : Int)) + a2)) a3) τ)
        refine a_icmp_eq (tgt := 1668) dL_law_1297 (by decide) (fun _ => ?_) (fun c => absurd c (by decide))
        exfalso
        omega
      · exfalso
        omega
      · exfalso
        omega
      · exfalso
        omega
      · have t1_1_5 : 0 ≤ ((s0 : Nat) : Int) ∧ ((s0 : Nat) : Int) ≤ 3 := t1_1_5
        have c16_3_5 : 0 ≤ (h 145 s0) := c16_3_5
        have t33_5_5 : ¬ (0 ≤ a2 ∧ a2 ≤ ((h 146 s0) - 1)) := t33_5_5
        show Aj γ mL_law d mc ms Post 1297 [(0, vK 0), (1, vA 0), (2, vA 123), (3, vI ((i : Nat) : Int))] [vI (-1000000013), vI 1] (mk (up2 h ((90 + 2 * s0) + 1) (Int.toNat a2) a3) τ)
        refine a_icmp_eq (tgt := 1668) dL_law_1297 (by decide) (fun c => absurd c (by decide)) (fun _ => ?_)
        refine a_iconst dL_law_1300 ⟨by decide, by decide⟩ ?_
        exact a_zret dL_law_1301 rfl (by first | exact Or.inl rfl | exact Or.inr rfl | omega) (by exfalso; omega)
      · have t1_1_5 : 0 ≤ ((s0 : Nat) : Int) ∧ ((s0 : Nat) : Int) ≤ 3 := t1_1_5
        have c16_3_5 : ¬ 0 ≤ (h 145 s0) := c16_3_5
        show Aj γ mL_law d mc ms Post 1297 [(0, vK 0), (1, vA 0), (2, vA 123), (3, vI ((i : Nat) : Int))] [vI (-1000000011), vI 1] (mk (up2 h ((90 + 2 * s0) + 1) (Int.toNat a2) a3) τ)
        refine a_icmp_eq (tgt := 1668) dL_law_1297 (by decide) (fun c => absurd c (by decide)) (fun _ => ?_)
        refine a_iconst dL_law_1300 ⟨by decide, by decide⟩ ?_
        exact a_zret dL_law_1301 rfl (by first | exact Or.inl rfl | exact Or.inr rfl | omega) (by exfalso; omega)
      · exfalso
        omega
    · have t1_1_1 : 0 ≤ ((s0 : Nat) : Int) ∧ ((s0 : Nat) : Int) ≤ 3 := t1_1_1
      have c24_2_1 : ¬ (h 145 s0) = (-1) := c24_2_1
      have t34_3_1 : 0 ≤ a2 ∧ a2 < (h 146 s0) := t34_3_1
      have c49_4_1 : ¬ (h 145 s0) = 0 := c49_4_1
      have c75_5_1 : ¬ a3 = (-1000000005) := c75_5_1
      have t85_6_1 : ¬ ((-99999) ≤ a3 ∧ a3 ≤ 99999) := t85_6_1
      show Aj γ mL_law d mc ms Post 1278 [(0, vK 0), (1, vA 0), (2, vA 123), (3, vI ((i : Nat) : Int))] [vI (-1000000001)] (mk h τ)
      refine a_aload_n (j := 2) dL_law_1278 rfl rfl (Nat.le_of_ble_eq_true rfl) ?_
      refine a_aload_n (j := 0) dL_law_1279 rfl rfl (Nat.le_of_ble_eq_true rfl) ?_
      refine a_iload_n (j := 3) dL_law_1280 rfl rfl ?_
      refine a_iconst dL_law_1281 ⟨by decide, by decide⟩ ?_
      refine a_iadd (z := (((i : Nat) : Int) + 1)) dL_law_1282 (w_ok (by omega) (by omega)) ?_
      refine a_sld (i + 1) dL_law_1283 (by omega) (by omega) ?_
      rw [ha1]
      refine a_aload_n (j := 0) dL_law_1284 rfl rfl (Nat.le_of_ble_eq_true rfl) ?_
      refine a_iload_n (j := 3) dL_law_1285 rfl rfl ?_
      refine a_iconst dL_law_1286 ⟨by decide, by decide⟩ ?_
      refine a_iadd (z := (((i : Nat) : Int) + 2)) dL_law_1287 (w_ok (by omega) (by omega)) ?_
      refine a_sld (i + 2) dL_law_1288 (by omega) (by omega) ?_
      rw [ha2]
      refine a_aload_n (j := 0) dL_law_1289 rfl rfl (Nat.le_of_ble_eq_true rfl) ?_
      refine a_iload_n (j := 3) dL_law_1290 rfl rfl ?_
      refine a_iconst dL_law_1291 ⟨by decide, by decide⟩ ?_
      refine a_iadd (z := (((i : Nat) : Int) + 3)) dL_law_1292 (w_ok (by omega) (by omega)) ?_
      refine a_sld (i + 3) dL_law_1293 (by omega) (by omega) ?_
      rw [ha3]
      refine b_callV (d' := d - 1) (mc' := 0) (ms' := 0) (mc1 := mc) (ms1 := ms) (st := [vI (-1000000001)]) (b := 123) [vI ((s0 : Nat) : Int), vI a2, vI a3] dL_law_1294 mwX9_mark lkL_158 (by decide) rfl rc_X9 rfl (Nat.le_of_ble_eq_true rfl) (by omega) (by omega) (by omega) (c_X9_mark (v1 := (h 146 s0)) (v2 := (h 145 s0)) (by omega)  rfl rfl (show Im ((s0 : Nat) : Int) 4 (0 ≤ (h 146 s0) ∧ (h 146 s0) ≤ 24) from fun _ _ => (by omega)) (fun t1_1_7 c16_3_7 t33_5_7 c49_7_7 c68_9_7 c109_11_7 => ?_) (fun t1_1_7 c16_3_7 t33_5_7 c49_7_7 c68_9_7 c74_12_7 c109_14_7 => ?_) (fun t1_1_7 c16_3_7 t33_5_7 c49_7_7 c68_9_7 c74_12_7 t84_15_7 c109_17_7 => ?_) (fun t1_1_7 c16_3_7 t33_5_7 c49_7_7 c68_9_7 c74_12_7 t84_15_7 => ?_) (fun t1_1_7 c16_3_7 t33_5_7 c49_7_7 c55_18_7 c68_20_7 c109_22_7 => ?_) (fun t1_1_7 c16_3_7 t33_5_7 c49_7_7 c55_18_7 => ?_) (fun t1_1_7 c16_3_7 t33_5_7 => ?_) (fun t1_1_7 c16_3_7 => ?_) (fun t1_1_7 => ?_))
      · have t1_1_7 : 0 ≤ ((s0 : Nat) : Int) ∧ ((s0 : Nat) : Int) ≤ 3 := t1_1_7
        have c16_3_7 : 0 ≤ (h 145 s0) := c16_3_7
        have t33_5_7 : 0 ≤ a2 ∧ a2 ≤ ((h 146 s0) - 1) := t33_5_7
        have c49_7_7 : ¬ (h 145 s0) = 0 := c49_7_7
        have c68_9_7 : ¬ (h 145 s0) = 1 := c68_9_7
        have c109_11_7 : ¬ (h 145 s0) = 0 := c109_11_7
        show Aj γ mL_law d mc ms Post 1297 [(0, vK 0), (1, vA 0), (2, vA 123), (3, vI ((i : Nat) : Int))] [vI 1, vI (-1000000001)] (mk (up2 h 147 (Int.toNat ((24 * ((s0 : Nat) : Int)) + a2)) a3) τ)
        refine a_icmp_eq (tgt := 1668) dL_law_1297 (by decide) (fun c => absurd c (by decide)) (fun _ => ?_)
        refine a_iconst dL_law_1300 ⟨by decide, by decide⟩ ?_
        exact a_zret dL_law_1301 rfl (by first | exact Or.inl rfl | exact Or.inr rfl | omega) (by exfalso; omega)
      · exfalso
        omega
      · exfalso
        omega
      · have t1_1_7 : 0 ≤ ((s0 : Nat) : Int) ∧ ((s0 : Nat) : Int) ≤ 3 := t1_1_7
        have c16_3_7 : 0 ≤ (h 145 s0) := c16_3_7
        have t33_5_7 : 0 ≤ a2 ∧ a2 ≤ ((h 146 s0) - 1) := t33_5_7
        have c49_7_7 : ¬ (h 145 s0) = 0 := c49_7_7
        have c68_9_7 : (h 145 s0) = 1 := c68_9_7
        have c74_12_7 : ¬ a3 = (-1000000005) := c74_12_7
        have t84_15_7 : ¬ ((-99999) ≤ a3 ∧ a3 ≤ 99999) := t84_15_7
        show Aj γ mL_law d mc ms Post 1297 [(0, vK 0), (1, vA 0), (2, vA 123), (3, vI ((i : Nat) : Int))] [vI (-1000000001), vI (-1000000001)] (mk h τ)
        refine a_icmp_eq (tgt := 1668) dL_law_1297 (by decide) (fun _ => ?_) (fun c => absurd c (by decide))
        exact kE h N J (IV_up (by omega) hI)
      · exfalso
        omega
      · exfalso
        omega
      · have t1_1_7 : 0 ≤ ((s0 : Nat) : Int) ∧ ((s0 : Nat) : Int) ≤ 3 := t1_1_7
        have c16_3_7 : 0 ≤ (h 145 s0) := c16_3_7
        have t33_5_7 : ¬ (0 ≤ a2 ∧ a2 ≤ ((h 146 s0) - 1)) := t33_5_7
        show Aj γ mL_law d mc ms Post 1297 [(0, vK 0), (1, vA 0), (2, vA 123), (3, vI ((i : Nat) : Int))] [vI (-1000000013), vI (-1000000001)] (mk h τ)
        refine a_icmp_eq (tgt := 1668) dL_law_1297 (by decide) (fun c => absurd c (by decide)) (fun _ => ?_)
        refine a_iconst dL_law_1300 ⟨by decide, by decide⟩ ?_
        exact a_zret dL_law_1301 rfl (by first | exact Or.inl rfl | exact Or.inr rfl | omega) (by exfalso; omega)
      · have t1_1_7 : 0 ≤ ((s0 : Nat) : Int) ∧ ((s0 : Nat) : Int) ≤ 3 := t1_1_7
        have c16_3_7 : ¬ 0 ≤ (h 145 s0) := c16_3_7
        show Aj γ mL_law d mc ms Post 1297 [(0, vK 0), (1, vA 0), (2, vA 123), (3, vI ((i : Nat) : Int))] [vI (-1000000011), vI (-1000000001)] (mk h τ)
        refine a_icmp_eq (tgt := 1668) dL_law_1297 (by decide) (fun c => absurd c (by decide)) (fun _ => ?_)
        refine a_iconst dL_law_1300 ⟨by decide, by decide⟩ ?_
        exact a_zret dL_law_1301 rfl (by first | exact Or.inl rfl | exact Or.inr rfl | omega) (by exfalso; omega)
      · exfalso
        omega
    · have t1_1_1 : 0 ≤ ((s0 : Nat) : Int) ∧ ((s0 : Nat) : Int) ≤ 3 := t1_1_1
      have c24_2_1 : ¬ (h 145 s0) = (-1) := c24_2_1
      have t34_3_1 : 0 ≤ a2 ∧ a2 < (h 146 s0) := t34_3_1
      have c49_4_1 : (h 145 s0) = 0 := c49_4_1
      have c55_7_1 : ¬ a3 = (-1000000005) := c55_7_1
      show Aj γ mL_law d mc ms Post 1278 [(0, vK 0), (1, vA 0), (2, vA 123), (3, vI ((i : Nat) : Int))] [vI 1] (mk (up2 h ((90 + 2 * s0) + 1) (Int.toNat a2) (s16 a3)) τ)
      refine a_aload_n (j := 2) dL_law_1278 rfl rfl (Nat.le_of_ble_eq_true rfl) ?_
      refine a_aload_n (j := 0) dL_law_1279 rfl rfl (Nat.le_of_ble_eq_true rfl) ?_
      refine a_iload_n (j := 3) dL_law_1280 rfl rfl ?_
      refine a_iconst dL_law_1281 ⟨by decide, by decide⟩ ?_
      refine a_iadd (z := (((i : Nat) : Int) + 1)) dL_law_1282 (w_ok (by omega) (by omega)) ?_
      refine a_sld (i + 1) dL_law_1283 (by omega) (by omega) ?_
      rw [ha1]
      refine a_aload_n (j := 0) dL_law_1284 rfl rfl (Nat.le_of_ble_eq_true rfl) ?_
      refine a_iload_n (j := 3) dL_law_1285 rfl rfl ?_
      refine a_iconst dL_law_1286 ⟨by decide, by decide⟩ ?_
      refine a_iadd (z := (((i : Nat) : Int) + 2)) dL_law_1287 (w_ok (by omega) (by omega)) ?_
      refine a_sld (i + 2) dL_law_1288 (by omega) (by omega) ?_
      rw [ha2]
      refine a_aload_n (j := 0) dL_law_1289 rfl rfl (Nat.le_of_ble_eq_true rfl) ?_
      refine a_iload_n (j := 3) dL_law_1290 rfl rfl ?_
      refine a_iconst dL_law_1291 ⟨by decide, by decide⟩ ?_
      refine a_iadd (z := (((i : Nat) : Int) + 3)) dL_law_1292 (w_ok (by omega) (by omega)) ?_
      refine a_sld (i + 3) dL_law_1293 (by omega) (by omega) ?_
      rw [ha3]
      refine b_callV (d' := d - 1) (mc' := 0) (ms' := 0) (mc1 := mc) (ms1 := ms) (st := [vI 1]) (b := 123) [vI ((s0 : Nat) : Int), vI a2, vI a3] dL_law_1294 mwX9_mark lkL_158 (by decide) rfl rc_X9 rfl (Nat.le_of_ble_eq_true rfl) (by omega) (by omega) (by omega) (c_X9_mark (v1 := (h 146 s0)) (v2 := (h 145 s0)) (by omega)  ((up2_ne (by omega)).trans rfl) ((up2_ne (by omega)).trans rfl) (show Im ((s0 : Nat) : Int) 4 (0 ≤ (h 146 s0) ∧ (h 146 s0) ≤ 24) from fun _ _ => (by omega)) (fun t1_1_9 c16_3_9 t33_5_9 c49_7_9 c68_9_9 c109_11_9 => ?_) (fun t1_1_9 c16_3_9 t33_5_9 c49_7_9 c68_9_9 c74_12_9 c109_14_9 => ?_) (fun t1_1_9 c16_3_9 t33_5_9 c49_7_9 c68_9_9 c74_12_9 t84_15_9 c109_17_9 => ?_) (fun t1_1_9 c16_3_9 t33_5_9 c49_7_9 c68_9_9 c74_12_9 t84_15_9 => ?_) (fun t1_1_9 c16_3_9 t33_5_9 c49_7_9 c55_18_9 c68_20_9 c109_22_9 => ?_) (fun t1_1_9 c16_3_9 t33_5_9 c49_7_9 c55_18_9 => ?_) (fun t1_1_9 c16_3_9 t33_5_9 => ?_) (fun t1_1_9 c16_3_9 => ?_) (fun t1_1_9 => ?_))
      · exfalso
        omega
      · exfalso
        omega
      · exfalso
        omega
      · exfalso
        omega
      · have t1_1_9 : 0 ≤ ((s0 : Nat) : Int) ∧ ((s0 : Nat) : Int) ≤ 3 := t1_1_9
        have c16_3_9 : 0 ≤ (h 145 s0) := c16_3_9
        have t33_5_9 : 0 ≤ a2 ∧ a2 ≤ ((h 146 s0) - 1) := t33_5_9
        have c49_7_9 : (h 145 s0) = 0 := c49_7_9
        have c55_18_9 : ¬ a3 = (-1000000005) := c55_18_9
        have c68_20_9 : ¬ (h 145 s0) = 1 := c68_20_9
        have c109_22_9 : (h 145 s0) = 0 := c109_22_9
        show Aj γ mL_law d mc ms Post 1297 [(0, vK 0), (1, vA 0), (2, vA 123), (3, vI ((i : Nat) : Int))] [vI 1, vI 1] (mk (up2 (up2 h ((90 + 2 * s0) + 1) (Int.toNat a2) (s16 a3)) 147 (Int.toNat ((24 * ((s0 : Nat) : Int)) + a2)) (s16 a3)) τ)
        refine a_icmp_eq (tgt := 1668) dL_law_1297 (by decide) (fun _ => ?_) (fun c => absurd c (by decide))
        exfalso
        omega
      · exfalso
        omega
      · have t1_1_9 : 0 ≤ ((s0 : Nat) : Int) ∧ ((s0 : Nat) : Int) ≤ 3 := t1_1_9
        have c16_3_9 : 0 ≤ (h 145 s0) := c16_3_9
        have t33_5_9 : ¬ (0 ≤ a2 ∧ a2 ≤ ((h 146 s0) - 1)) := t33_5_9
        show Aj γ mL_law d mc ms Post 1297 [(0, vK 0), (1, vA 0), (2, vA 123), (3, vI ((i : Nat) : Int))] [vI (-1000000013), vI 1] (mk (up2 h ((90 + 2 * s0) + 1) (Int.toNat a2) (s16 a3)) τ)
        refine a_icmp_eq (tgt := 1668) dL_law_1297 (by decide) (fun c => absurd c (by decide)) (fun _ => ?_)
        refine a_iconst dL_law_1300 ⟨by decide, by decide⟩ ?_
        exact a_zret dL_law_1301 rfl (by first | exact Or.inl rfl | exact Or.inr rfl | omega) (by exfalso; omega)
      · have t1_1_9 : 0 ≤ ((s0 : Nat) : Int) ∧ ((s0 : Nat) : Int) ≤ 3 := t1_1_9
        have c16_3_9 : ¬ 0 ≤ (h 145 s0) := c16_3_9
        show Aj γ mL_law d mc ms Post 1297 [(0, vK 0), (1, vA 0), (2, vA 123), (3, vI ((i : Nat) : Int))] [vI (-1000000011), vI 1] (mk (up2 h ((90 + 2 * s0) + 1) (Int.toNat a2) (s16 a3)) τ)
        refine a_icmp_eq (tgt := 1668) dL_law_1297 (by decide) (fun c => absurd c (by decide)) (fun _ => ?_)
        refine a_iconst dL_law_1300 ⟨by decide, by decide⟩ ?_
        exact a_zret dL_law_1301 rfl (by first | exact Or.inl rfl | exact Or.inr rfl | omega) (by exfalso; omega)
      · exfalso
        omega
    · have t1_1_1 : 0 ≤ ((s0 : Nat) : Int) ∧ ((s0 : Nat) : Int) ≤ 3 := t1_1_1
      have c24_2_1 : ¬ (h 145 s0) = (-1) := c24_2_1
      have t34_3_1 : 0 ≤ a2 ∧ a2 < (h 146 s0) := t34_3_1
      have c49_4_1 : (h 145 s0) = 0 := c49_4_1
      have c55_7_1 : a3 = (-1000000005) := c55_7_1
      show Aj γ mL_law d mc ms Post 1278 [(0, vK 0), (1, vA 0), (2, vA 123), (3, vI ((i : Nat) : Int))] [vI (-1000000012)] (mk h τ)
      refine a_aload_n (j := 2) dL_law_1278 rfl rfl (Nat.le_of_ble_eq_true rfl) ?_
      refine a_aload_n (j := 0) dL_law_1279 rfl rfl (Nat.le_of_ble_eq_true rfl) ?_
      refine a_iload_n (j := 3) dL_law_1280 rfl rfl ?_
      refine a_iconst dL_law_1281 ⟨by decide, by decide⟩ ?_
      refine a_iadd (z := (((i : Nat) : Int) + 1)) dL_law_1282 (w_ok (by omega) (by omega)) ?_
      refine a_sld (i + 1) dL_law_1283 (by omega) (by omega) ?_
      rw [ha1]
      refine a_aload_n (j := 0) dL_law_1284 rfl rfl (Nat.le_of_ble_eq_true rfl) ?_
      refine a_iload_n (j := 3) dL_law_1285 rfl rfl ?_
      refine a_iconst dL_law_1286 ⟨by decide, by decide⟩ ?_
      refine a_iadd (z := (((i : Nat) : Int) + 2)) dL_law_1287 (w_ok (by omega) (by omega)) ?_
      refine a_sld (i + 2) dL_law_1288 (by omega) (by omega) ?_
      rw [ha2]
      refine a_aload_n (j := 0) dL_law_1289 rfl rfl (Nat.le_of_ble_eq_true rfl) ?_
      refine a_iload_n (j := 3) dL_law_1290 rfl rfl ?_
      refine a_iconst dL_law_1291 ⟨by decide, by decide⟩ ?_
      refine a_iadd (z := (((i : Nat) : Int) + 3)) dL_law_1292 (w_ok (by omega) (by omega)) ?_
      refine a_sld (i + 3) dL_law_1293 (by omega) (by omega) ?_
      rw [ha3]
      refine b_callV (d' := d - 1) (mc' := 0) (ms' := 0) (mc1 := mc) (ms1 := ms) (st := [vI (-1000000012)]) (b := 123) [vI ((s0 : Nat) : Int), vI a2, vI a3] dL_law_1294 mwX9_mark lkL_158 (by decide) rfl rc_X9 rfl (Nat.le_of_ble_eq_true rfl) (by omega) (by omega) (by omega) (c_X9_mark (v1 := (h 146 s0)) (v2 := (h 145 s0)) (by omega)  rfl rfl (show Im ((s0 : Nat) : Int) 4 (0 ≤ (h 146 s0) ∧ (h 146 s0) ≤ 24) from fun _ _ => (by omega)) (fun t1_1_11 c16_3_11 t33_5_11 c49_7_11 c68_9_11 c109_11_11 => ?_) (fun t1_1_11 c16_3_11 t33_5_11 c49_7_11 c68_9_11 c74_12_11 c109_14_11 => ?_) (fun t1_1_11 c16_3_11 t33_5_11 c49_7_11 c68_9_11 c74_12_11 t84_15_11 c109_17_11 => ?_) (fun t1_1_11 c16_3_11 t33_5_11 c49_7_11 c68_9_11 c74_12_11 t84_15_11 => ?_) (fun t1_1_11 c16_3_11 t33_5_11 c49_7_11 c55_18_11 c68_20_11 c109_22_11 => ?_) (fun t1_1_11 c16_3_11 t33_5_11 c49_7_11 c55_18_11 => ?_) (fun t1_1_11 c16_3_11 t33_5_11 => ?_) (fun t1_1_11 c16_3_11 => ?_) (fun t1_1_11 => ?_))
      · exfalso
        omega
      · exfalso
        omega
      · exfalso
        omega
      · exfalso
        omega
      · exfalso
        omega
      · have t1_1_11 : 0 ≤ ((s0 : Nat) : Int) ∧ ((s0 : Nat) : Int) ≤ 3 := t1_1_11
        have c16_3_11 : 0 ≤ (h 145 s0) := c16_3_11
        have t33_5_11 : 0 ≤ a2 ∧ a2 ≤ ((h 146 s0) - 1) := t33_5_11
        have c49_7_11 : (h 145 s0) = 0 := c49_7_11
        have c55_18_11 : a3 = (-1000000005) := c55_18_11
        show Aj γ mL_law d mc ms Post 1297 [(0, vK 0), (1, vA 0), (2, vA 123), (3, vI ((i : Nat) : Int))] [vI (-1000000012), vI (-1000000012)] (mk h τ)
        refine a_icmp_eq (tgt := 1668) dL_law_1297 (by decide) (fun _ => ?_) (fun c => absurd c (by decide))
        exact kE h N J (IV_up (by omega) hI)
      · have t1_1_11 : 0 ≤ ((s0 : Nat) : Int) ∧ ((s0 : Nat) : Int) ≤ 3 := t1_1_11
        have c16_3_11 : 0 ≤ (h 145 s0) := c16_3_11
        have t33_5_11 : ¬ (0 ≤ a2 ∧ a2 ≤ ((h 146 s0) - 1)) := t33_5_11
        show Aj γ mL_law d mc ms Post 1297 [(0, vK 0), (1, vA 0), (2, vA 123), (3, vI ((i : Nat) : Int))] [vI (-1000000013), vI (-1000000012)] (mk h τ)
        refine a_icmp_eq (tgt := 1668) dL_law_1297 (by decide) (fun c => absurd c (by decide)) (fun _ => ?_)
        refine a_iconst dL_law_1300 ⟨by decide, by decide⟩ ?_
        exact a_zret dL_law_1301 rfl (by first | exact Or.inl rfl | exact Or.inr rfl | omega) (by exfalso; omega)
      · have t1_1_11 : 0 ≤ ((s0 : Nat) : Int) ∧ ((s0 : Nat) : Int) ≤ 3 := t1_1_11
        have c16_3_11 : ¬ 0 ≤ (h 145 s0) := c16_3_11
        show Aj γ mL_law d mc ms Post 1297 [(0, vK 0), (1, vA 0), (2, vA 123), (3, vI ((i : Nat) : Int))] [vI (-1000000011), vI (-1000000012)] (mk h τ)
        refine a_icmp_eq (tgt := 1668) dL_law_1297 (by decide) (fun c => absurd c (by decide)) (fun _ => ?_)
        refine a_iconst dL_law_1300 ⟨by decide, by decide⟩ ?_
        exact a_zret dL_law_1301 rfl (by first | exact Or.inl rfl | exact Or.inr rfl | omega) (by exfalso; omega)
      · exfalso
        omega
    · have t1_1_1 : 0 ≤ ((s0 : Nat) : Int) ∧ ((s0 : Nat) : Int) ≤ 3 := t1_1_1
      have c24_2_1 : ¬ (h 145 s0) = (-1) := c24_2_1
      have t34_3_1 : ¬ (0 ≤ a2 ∧ a2 < (h 146 s0)) := t34_3_1
      show Aj γ mL_law d mc ms Post 1278 [(0, vK 0), (1, vA 0), (2, vA 123), (3, vI ((i : Nat) : Int))] [vI (-1000000013)] (mk h τ)
      refine a_aload_n (j := 2) dL_law_1278 rfl rfl (Nat.le_of_ble_eq_true rfl) ?_
      refine a_aload_n (j := 0) dL_law_1279 rfl rfl (Nat.le_of_ble_eq_true rfl) ?_
      refine a_iload_n (j := 3) dL_law_1280 rfl rfl ?_
      refine a_iconst dL_law_1281 ⟨by decide, by decide⟩ ?_
      refine a_iadd (z := (((i : Nat) : Int) + 1)) dL_law_1282 (w_ok (by omega) (by omega)) ?_
      refine a_sld (i + 1) dL_law_1283 (by omega) (by omega) ?_
      rw [ha1]
      refine a_aload_n (j := 0) dL_law_1284 rfl rfl (Nat.le_of_ble_eq_true rfl) ?_
      refine a_iload_n (j := 3) dL_law_1285 rfl rfl ?_
      refine a_iconst dL_law_1286 ⟨by decide, by decide⟩ ?_
      refine a_iadd (z := (((i : Nat) : Int) + 2)) dL_law_1287 (w_ok (by omega) (by omega)) ?_
      refine a_sld (i + 2) dL_law_1288 (by omega) (by omega) ?_
      rw [ha2]
      refine a_aload_n (j := 0) dL_law_1289 rfl rfl (Nat.le_of_ble_eq_true rfl) ?_
      refine a_iload_n (j := 3) dL_law_1290 rfl rfl ?_
      refine a_iconst dL_law_1291 ⟨by decide, by decide⟩ ?_
      refine a_iadd (z := (((i : Nat) : Int) + 3)) dL_law_1292 (w_ok (by omega) (by omega)) ?_
      refine a_sld (i + 3) dL_law_1293 (by omega) (by omega) ?_
      rw [ha3]
      refine b_callV (d' := d - 1) (mc' := 0) (ms' := 0) (mc1 := mc) (ms1 := ms) (st := [vI (-1000000013)]) (b := 123) [vI ((s0 : Nat) : Int), vI a2, vI a3] dL_law_1294 mwX9_mark lkL_158 (by decide) rfl rc_X9 rfl (Nat.le_of_ble_eq_true rfl) (by omega) (by omega) (by omega) (c_X9_mark (v1 := (h 146 s0)) (v2 := (h 145 s0)) (by omega)  rfl rfl (show Im ((s0 : Nat) : Int) 4 (0 ≤ (h 146 s0) ∧ (h 146 s0) ≤ 24) from fun _ _ => (by omega)) (fun t1_1_13 c16_3_13 t33_5_13 c49_7_13 c68_9_13 c109_11_13 => ?_) (fun t1_1_13 c16_3_13 t33_5_13 c49_7_13 c68_9_13 c74_12_13 c109_14_13 => ?_) (fun t1_1_13 c16_3_13 t33_5_13 c49_7_13 c68_9_13 c74_12_13 t84_15_13 c109_17_13 => ?_) (fun t1_1_13 c16_3_13 t33_5_13 c49_7_13 c68_9_13 c74_12_13 t84_15_13 => ?_) (fun t1_1_13 c16_3_13 t33_5_13 c49_7_13 c55_18_13 c68_20_13 c109_22_13 => ?_) (fun t1_1_13 c16_3_13 t33_5_13 c49_7_13 c55_18_13 => ?_) (fun t1_1_13 c16_3_13 t33_5_13 => ?_) (fun t1_1_13 c16_3_13 => ?_) (fun t1_1_13 => ?_))
      · have t1_1_13 : 0 ≤ ((s0 : Nat) : Int) ∧ ((s0 : Nat) : Int) ≤ 3 := t1_1_13
        have c16_3_13 : 0 ≤ (h 145 s0) := c16_3_13
        have t33_5_13 : 0 ≤ a2 ∧ a2 ≤ ((h 146 s0) - 1) := t33_5_13
        have c49_7_13 : ¬ (h 145 s0) = 0 := c49_7_13
        have c68_9_13 : ¬ (h 145 s0) = 1 := c68_9_13
        have c109_11_13 : ¬ (h 145 s0) = 0 := c109_11_13
        show Aj γ mL_law d mc ms Post 1297 [(0, vK 0), (1, vA 0), (2, vA 123), (3, vI ((i : Nat) : Int))] [vI 1, vI (-1000000013)] (mk (up2 h 147 (Int.toNat ((24 * ((s0 : Nat) : Int)) + a2)) a3) τ)
        refine a_icmp_eq (tgt := 1668) dL_law_1297 (by decide) (fun c => absurd c (by decide)) (fun _ => ?_)
        refine a_iconst dL_law_1300 ⟨by decide, by decide⟩ ?_
        exact a_zret dL_law_1301 rfl (by first | exact Or.inl rfl | exact Or.inr rfl | omega) (by exfalso; omega)
      · have t1_1_13 : 0 ≤ ((s0 : Nat) : Int) ∧ ((s0 : Nat) : Int) ≤ 3 := t1_1_13
        have c16_3_13 : 0 ≤ (h 145 s0) := c16_3_13
        have t33_5_13 : 0 ≤ a2 ∧ a2 ≤ ((h 146 s0) - 1) := t33_5_13
        have c49_7_13 : ¬ (h 145 s0) = 0 := c49_7_13
        have c68_9_13 : (h 145 s0) = 1 := c68_9_13
        have c74_12_13 : a3 = (-1000000005) := c74_12_13
        have c109_14_13 : ¬ (h 145 s0) = 0 := c109_14_13
        show Aj γ mL_law d mc ms Post 1297 [(0, vK 0), (1, vA 0), (2, vA 123), (3, vI ((i : Nat) : Int))] [vI 1, vI (-1000000013)] (mk (up2 h 147 (Int.toNat ((24 * ((s0 : Nat) : Int)) + a2)) a3) τ)
        refine a_icmp_eq (tgt := 1668) dL_law_1297 (by decide) (fun c => absurd c (by decide)) (fun _ => ?_)
        refine a_iconst dL_law_1300 ⟨by decide, by decide⟩ ?_
        exact a_zret dL_law_1301 rfl (by first | exact Or.inl rfl | exact Or.inr rfl | omega) (by exfalso; omega)
      · have t1_1_13 : 0 ≤ ((s0 : Nat) : Int) ∧ ((s0 : Nat) : Int) ≤ 3 := t1_1_13
        have c16_3_13 : 0 ≤ (h 145 s0) := c16_3_13
        have t33_5_13 : 0 ≤ a2 ∧ a2 ≤ ((h 146 s0) - 1) := t33_5_13
        have c49_7_13 : ¬ (h 145 s0) = 0 := c49_7_13
        have c68_9_13 : (h 145 s0) = 1 := c68_9_13
        have c74_12_13 : ¬ a3 = (-1000000005) := c74_12_13
        have t84_15_13 : (-99999) ≤ a3 ∧ a3 ≤ 99999 := t84_15_13
        have c109_17_13 : ¬ (h 145 s0) = 0 := c109_17_13
        show Aj γ mL_law d mc ms Post 1297 [(0, vK 0), (1, vA 0), (2, vA 123), (3, vI ((i : Nat) : Int))] [vI 1, vI (-1000000013)] (mk (up2 h 147 (Int.toNat ((24 * ((s0 : Nat) : Int)) + a2)) a3) τ)
        refine a_icmp_eq (tgt := 1668) dL_law_1297 (by decide) (fun c => absurd c (by decide)) (fun _ => ?_)
        refine a_iconst dL_law_1300 ⟨by decide, by decide⟩ ?_
        exact a_zret dL_law_1301 rfl (by first | exact Or.inl rfl | exact Or.inr rfl | omega) (by exfalso; omega)
      · have t1_1_13 : 0 ≤ ((s0 : Nat) : Int) ∧ ((s0 : Nat) : Int) ≤ 3 := t1_1_13
        have c16_3_13 : 0 ≤ (h 145 s0) := c16_3_13
        have t33_5_13 : 0 ≤ a2 ∧ a2 ≤ ((h 146 s0) - 1) := t33_5_13
        have c49_7_13 : ¬ (h 145 s0) = 0 := c49_7_13
        have c68_9_13 : (h 145 s0) = 1 := c68_9_13
        have c74_12_13 : ¬ a3 = (-1000000005) := c74_12_13
        have t84_15_13 : ¬ ((-99999) ≤ a3 ∧ a3 ≤ 99999) := t84_15_13
        show Aj γ mL_law d mc ms Post 1297 [(0, vK 0), (1, vA 0), (2, vA 123), (3, vI ((i : Nat) : Int))] [vI (-1000000001), vI (-1000000013)] (mk h τ)
        refine a_icmp_eq (tgt := 1668) dL_law_1297 (by decide) (fun c => absurd c (by decide)) (fun _ => ?_)
        refine a_iconst dL_law_1300 ⟨by decide, by decide⟩ ?_
        exact a_zret dL_law_1301 rfl (by first | exact Or.inl rfl | exact Or.inr rfl | omega) (by exfalso; omega)
      · have t1_1_13 : 0 ≤ ((s0 : Nat) : Int) ∧ ((s0 : Nat) : Int) ≤ 3 := t1_1_13
        have c16_3_13 : 0 ≤ (h 145 s0) := c16_3_13
        have t33_5_13 : 0 ≤ a2 ∧ a2 ≤ ((h 146 s0) - 1) := t33_5_13
        have c49_7_13 : (h 145 s0) = 0 := c49_7_13
        have c55_18_13 : ¬ a3 = (-1000000005) := c55_18_13
        have c68_20_13 : ¬ (h 145 s0) = 1 := c68_20_13
        have c109_22_13 : (h 145 s0) = 0 := c109_22_13
        show Aj γ mL_law d mc ms Post 1297 [(0, vK 0), (1, vA 0), (2, vA 123), (3, vI ((i : Nat) : Int))] [vI 1, vI (-1000000013)] (mk (up2 h 147 (Int.toNat ((24 * ((s0 : Nat) : Int)) + a2)) (s16 a3)) τ)
        refine a_icmp_eq (tgt := 1668) dL_law_1297 (by decide) (fun c => absurd c (by decide)) (fun _ => ?_)
        refine a_iconst dL_law_1300 ⟨by decide, by decide⟩ ?_
        exact a_zret dL_law_1301 rfl (by first | exact Or.inl rfl | exact Or.inr rfl | omega) (by exfalso; omega)
      · have t1_1_13 : 0 ≤ ((s0 : Nat) : Int) ∧ ((s0 : Nat) : Int) ≤ 3 := t1_1_13
        have c16_3_13 : 0 ≤ (h 145 s0) := c16_3_13
        have t33_5_13 : 0 ≤ a2 ∧ a2 ≤ ((h 146 s0) - 1) := t33_5_13
        have c49_7_13 : (h 145 s0) = 0 := c49_7_13
        have c55_18_13 : a3 = (-1000000005) := c55_18_13
        show Aj γ mL_law d mc ms Post 1297 [(0, vK 0), (1, vA 0), (2, vA 123), (3, vI ((i : Nat) : Int))] [vI (-1000000012), vI (-1000000013)] (mk h τ)
        refine a_icmp_eq (tgt := 1668) dL_law_1297 (by decide) (fun c => absurd c (by decide)) (fun _ => ?_)
        refine a_iconst dL_law_1300 ⟨by decide, by decide⟩ ?_
        exact a_zret dL_law_1301 rfl (by first | exact Or.inl rfl | exact Or.inr rfl | omega) (by exfalso; omega)
      · have t1_1_13 : 0 ≤ ((s0 : Nat) : Int) ∧ ((s0 : Nat) : Int) ≤ 3 := t1_1_13
        have c16_3_13 : 0 ≤ (h 145 s0) := c16_3_13
        have t33_5_13 : ¬ (0 ≤ a2 ∧ a2 ≤ ((h 146 s0) - 1)) := t33_5_13
        show Aj γ mL_law d mc ms Post 1297 [(0, vK 0), (1, vA 0), (2, vA 123), (3, vI ((i : Nat) : Int))] [vI (-1000000013), vI (-1000000013)] (mk h τ)
        refine a_icmp_eq (tgt := 1668) dL_law_1297 (by decide) (fun _ => ?_) (fun c => absurd c (by decide))
        exact kE h N J (IV_up (by omega) hI)
      · have t1_1_13 : 0 ≤ ((s0 : Nat) : Int) ∧ ((s0 : Nat) : Int) ≤ 3 := t1_1_13
        have c16_3_13 : ¬ 0 ≤ (h 145 s0) := c16_3_13
        show Aj γ mL_law d mc ms Post 1297 [(0, vK 0), (1, vA 0), (2, vA 123), (3, vI ((i : Nat) : Int))] [vI (-1000000011), vI (-1000000013)] (mk h τ)
        refine a_icmp_eq (tgt := 1668) dL_law_1297 (by decide) (fun c => absurd c (by decide)) (fun _ => ?_)
        refine a_iconst dL_law_1300 ⟨by decide, by decide⟩ ?_
        exact a_zret dL_law_1301 rfl (by first | exact Or.inl rfl | exact Or.inr rfl | omega) (by exfalso; omega)
      · exfalso
        omega
    · have t1_1_1 : 0 ≤ ((s0 : Nat) : Int) ∧ ((s0 : Nat) : Int) ≤ 3 := t1_1_1
      have c24_2_1 : (h 145 s0) = (-1) := c24_2_1
      show Aj γ mL_law d mc ms Post 1278 [(0, vK 0), (1, vA 0), (2, vA 123), (3, vI ((i : Nat) : Int))] [vI (-1000000011)] (mk h τ)
      refine a_aload_n (j := 2) dL_law_1278 rfl rfl (Nat.le_of_ble_eq_true rfl) ?_
      refine a_aload_n (j := 0) dL_law_1279 rfl rfl (Nat.le_of_ble_eq_true rfl) ?_
      refine a_iload_n (j := 3) dL_law_1280 rfl rfl ?_
      refine a_iconst dL_law_1281 ⟨by decide, by decide⟩ ?_
      refine a_iadd (z := (((i : Nat) : Int) + 1)) dL_law_1282 (w_ok (by omega) (by omega)) ?_
      refine a_sld (i + 1) dL_law_1283 (by omega) (by omega) ?_
      rw [ha1]
      refine a_aload_n (j := 0) dL_law_1284 rfl rfl (Nat.le_of_ble_eq_true rfl) ?_
      refine a_iload_n (j := 3) dL_law_1285 rfl rfl ?_
      refine a_iconst dL_law_1286 ⟨by decide, by decide⟩ ?_
      refine a_iadd (z := (((i : Nat) : Int) + 2)) dL_law_1287 (w_ok (by omega) (by omega)) ?_
      refine a_sld (i + 2) dL_law_1288 (by omega) (by omega) ?_
      rw [ha2]
      refine a_aload_n (j := 0) dL_law_1289 rfl rfl (Nat.le_of_ble_eq_true rfl) ?_
      refine a_iload_n (j := 3) dL_law_1290 rfl rfl ?_
      refine a_iconst dL_law_1291 ⟨by decide, by decide⟩ ?_
      refine a_iadd (z := (((i : Nat) : Int) + 3)) dL_law_1292 (w_ok (by omega) (by omega)) ?_
      refine a_sld (i + 3) dL_law_1293 (by omega) (by omega) ?_
      rw [ha3]
      refine b_callV (d' := d - 1) (mc' := 0) (ms' := 0) (mc1 := mc) (ms1 := ms) (st := [vI (-1000000011)]) (b := 123) [vI ((s0 : Nat) : Int), vI a2, vI a3] dL_law_1294 mwX9_mark lkL_158 (by decide) rfl rc_X9 rfl (Nat.le_of_ble_eq_true rfl) (by omega) (by omega) (by omega) (c_X9_mark (v1 := (h 146 s0)) (v2 := (h 145 s0)) (by omega)  rfl rfl (show Im ((s0 : Nat) : Int) 4 (0 ≤ (h 146 s0) ∧ (h 146 s0) ≤ 24) from fun _ _ => (by omega)) (fun t1_1_15 c16_3_15 t33_5_15 c49_7_15 c68_9_15 c109_11_15 => ?_) (fun t1_1_15 c16_3_15 t33_5_15 c49_7_15 c68_9_15 c74_12_15 c109_14_15 => ?_) (fun t1_1_15 c16_3_15 t33_5_15 c49_7_15 c68_9_15 c74_12_15 t84_15_15 c109_17_15 => ?_) (fun t1_1_15 c16_3_15 t33_5_15 c49_7_15 c68_9_15 c74_12_15 t84_15_15 => ?_) (fun t1_1_15 c16_3_15 t33_5_15 c49_7_15 c55_18_15 c68_20_15 c109_22_15 => ?_) (fun t1_1_15 c16_3_15 t33_5_15 c49_7_15 c55_18_15 => ?_) (fun t1_1_15 c16_3_15 t33_5_15 => ?_) (fun t1_1_15 c16_3_15 => ?_) (fun t1_1_15 => ?_))
      · have t1_1_15 : 0 ≤ ((s0 : Nat) : Int) ∧ ((s0 : Nat) : Int) ≤ 3 := t1_1_15
        have c16_3_15 : 0 ≤ (h 145 s0) := c16_3_15
        have t33_5_15 : 0 ≤ a2 ∧ a2 ≤ ((h 146 s0) - 1) := t33_5_15
        have c49_7_15 : ¬ (h 145 s0) = 0 := c49_7_15
        have c68_9_15 : ¬ (h 145 s0) = 1 := c68_9_15
        have c109_11_15 : ¬ (h 145 s0) = 0 := c109_11_15
        show Aj γ mL_law d mc ms Post 1297 [(0, vK 0), (1, vA 0), (2, vA 123), (3, vI ((i : Nat) : Int))] [vI 1, vI (-1000000011)] (mk (up2 h 147 (Int.toNat ((24 * ((s0 : Nat) : Int)) + a2)) a3) τ)
        refine a_icmp_eq (tgt := 1668) dL_law_1297 (by decide) (fun c => absurd c (by decide)) (fun _ => ?_)
        refine a_iconst dL_law_1300 ⟨by decide, by decide⟩ ?_
        exact a_zret dL_law_1301 rfl (by first | exact Or.inl rfl | exact Or.inr rfl | omega) (by exfalso; omega)
      · exfalso
        omega
      · exfalso
        omega
      · exfalso
        omega
      · exfalso
        omega
      · exfalso
        omega
      · have t1_1_15 : 0 ≤ ((s0 : Nat) : Int) ∧ ((s0 : Nat) : Int) ≤ 3 := t1_1_15
        have c16_3_15 : 0 ≤ (h 145 s0) := c16_3_15
        have t33_5_15 : ¬ (0 ≤ a2 ∧ a2 ≤ ((h 146 s0) - 1)) := t33_5_15
        show Aj γ mL_law d mc ms Post 1297 [(0, vK 0), (1, vA 0), (2, vA 123), (3, vI ((i : Nat) : Int))] [vI (-1000000013), vI (-1000000011)] (mk h τ)
        refine a_icmp_eq (tgt := 1668) dL_law_1297 (by decide) (fun c => absurd c (by decide)) (fun _ => ?_)
        refine a_iconst dL_law_1300 ⟨by decide, by decide⟩ ?_
        exact a_zret dL_law_1301 rfl (by first | exact Or.inl rfl | exact Or.inr rfl | omega) (by exfalso; omega)
      · have t1_1_15 : 0 ≤ ((s0 : Nat) : Int) ∧ ((s0 : Nat) : Int) ≤ 3 := t1_1_15
        have c16_3_15 : ¬ 0 ≤ (h 145 s0) := c16_3_15
        show Aj γ mL_law d mc ms Post 1297 [(0, vK 0), (1, vA 0), (2, vA 123), (3, vI ((i : Nat) : Int))] [vI (-1000000011), vI (-1000000011)] (mk h τ)
        refine a_icmp_eq (tgt := 1668) dL_law_1297 (by decide) (fun _ => ?_) (fun c => absurd c (by decide))
        exact kE h N J (IV_up (by omega) hI)
      · exfalso
        omega
    · exfalso
      omega
