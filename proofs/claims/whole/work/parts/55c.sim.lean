set_option maxHeartbeats 16000000 in
theorem s_sheet {γ : GT} {d mc ms n i : Nat} {N J : Nat → Int} {h : Nat → Nat → Int} {τ : List AC} {Post : Option AV → List AC → Prop} (hd : 30 ≤ d) (hn : n < 64) (hi : i + 5 < g_L γ) (hL : g_L γ ≤ 384) (hI : IVp n h τ N J) (kE : ∀ h' N' J', IVp (n + 1) h' τ N' J' → Aj γ mL_law d mc ms Post 1668 [(0, vK 0), (1, vA 0), (2, vA 123), (3, vI ((i : Nat) : Int))] [] (mk h' τ)) : Aj γ mL_law d mc ms Post 1216 [(0, vK 0), (1, vA 0), (2, vA 123), (3, vI ((i : Nat) : Int))] [] (mk h τ) := by
  obtain ⟨hN, hJ, hX, hR, hk, hkK, hC, hRC, hst, hO⟩ := id hI
  have hsc := hX.1.1
  have hs1 := hsc.1
  have hs2 := hsc.2.1
  have hs3 := hsc.2.2.1
  have hs4 := hsc.2.2.2.1
  have hs5 := hsc.2.2.2.2
  have hs6 := hX.1.2.2.2.1
  have hx7 := hX.2.1
  have hx8 := hX.2.2.2.1
  obtain ⟨a1, ha1⟩ : ∃ z, (g_x γ (i + 1)).toInt = z := ⟨_, rfl⟩
  have ra1 : inI a1 := ha1 ▸ i32_rng _
  unfold inI at ra1
  obtain ⟨a2, ha2⟩ : ∃ z, (g_x γ (i + 2)).toInt = z := ⟨_, rfl⟩
  have ra2 : inI a2 := ha2 ▸ i32_rng _
  unfold inI at ra2
  obtain ⟨a3, ha3⟩ : ∃ z, (g_x γ (i + 3)).toInt = z := ⟨_, rfl⟩
  have ra3 : inI a3 := ha3 ▸ i32_rng _
  unfold inI at ra3
  rcases (show ¬ (0 ≤ a1 ∧ a1 ≤ 3) ∨ (0 ≤ a1 ∧ a1 ≤ 3) by omega) with hin | hin
  · skip
    refine a_aload_n (j := 1) dL_law_1216 rfl rfl (Nat.le_of_ble_eq_true rfl) ?_
    refine a_aload_n (j := 0) dL_law_1217 rfl rfl (Nat.le_of_ble_eq_true rfl) ?_
    refine a_iload_n (j := 3) dL_law_1218 rfl rfl ?_
    refine a_iconst dL_law_1219 ⟨by decide, by decide⟩ ?_
    refine a_iadd (z := (((i : Nat) : Int) + 1)) dL_law_1220 (w_ok (by omega) (by omega)) ?_
    refine a_sld (i + 1) dL_law_1221 (by omega) (by omega) ?_
    rw [ha1]
    refine a_aload_n (j := 0) dL_law_1222 rfl rfl (Nat.le_of_ble_eq_true rfl) ?_
    refine a_iload_n (j := 3) dL_law_1223 rfl rfl ?_
    refine a_iconst dL_law_1224 ⟨by decide, by decide⟩ ?_
    refine a_iadd (z := (((i : Nat) : Int) + 2)) dL_law_1225 (w_ok (by omega) (by omega)) ?_
    refine a_sld (i + 2) dL_law_1226 (by omega) (by omega) ?_
    rw [ha2]
    refine a_aload_n (j := 0) dL_law_1227 rfl rfl (Nat.le_of_ble_eq_true rfl) ?_
    refine a_iload_n (j := 3) dL_law_1228 rfl rfl ?_
    refine a_iconst dL_law_1229 ⟨by decide, by decide⟩ ?_
    refine a_iadd (z := (((i : Nat) : Int) + 3)) dL_law_1230 (w_ok (by omega) (by omega)) ?_
    refine a_sld (i + 3) dL_law_1231 (by omega) (by omega) ?_
    rw [ha3]
    refine b_callV (d' := d - 1) (mc' := 0) (ms' := 0) (mc1 := mc) (ms1 := ms) (st := []) (b := 0) [vI a1, vI a2, vI a3] dL_law_1232 mwX8_sheet lkL_151 (by decide) rfl rc_X8 rfl (Nat.le_of_ble_eq_true rfl) (by omega) (by omega) (by omega) (c_X8_sheet (f1 := (h ((90 + 2 * (Int.toNat a1)) + 1))) (by omega)  rfl  (fun t1_1_1 t10_2_1 c21_3_1 c40_4_1 c47_5_1 => ?_) (fun t1_1_1 t10_2_1 c21_3_1 c40_4_1 c47_5_1 => ?_) (fun t1_1_1 t10_2_1 c21_3_1 c40_4_1 => ?_) (fun t1_1_1 t10_2_1 c21_3_1 => ?_) (fun t1_1_1 t10_2_1 => ?_) (fun t1_1_1 => ?_))
    · exfalso
      omega
    · exfalso
      omega
    · exfalso
      omega
    · exfalso
      omega
    · exfalso
      omega
    · have t1_1_1 : ¬ (0 ≤ a1 ∧ a1 ≤ 3) := t1_1_1
      show Aj γ mL_law d mc ms Post 1235 [(0, vK 0), (1, vA 0), (2, vA 123), (3, vI ((i : Nat) : Int))] [vI (-1000000001)] (mk h τ)
      refine a_aload_n (j := 2) dL_law_1235 rfl rfl (Nat.le_of_ble_eq_true rfl) ?_
      refine a_aload_n (j := 0) dL_law_1236 rfl rfl (Nat.le_of_ble_eq_true rfl) ?_
      refine a_iload_n (j := 3) dL_law_1237 rfl rfl ?_
      refine a_iconst dL_law_1238 ⟨by decide, by decide⟩ ?_
      refine a_iadd (z := (((i : Nat) : Int) + 1)) dL_law_1239 (w_ok (by omega) (by omega)) ?_
      refine a_sld (i + 1) dL_law_1240 (by omega) (by omega) ?_
      rw [ha1]
      refine a_aload_n (j := 0) dL_law_1241 rfl rfl (Nat.le_of_ble_eq_true rfl) ?_
      refine a_iload_n (j := 3) dL_law_1242 rfl rfl ?_
      refine a_iconst dL_law_1243 ⟨by decide, by decide⟩ ?_
      refine a_iadd (z := (((i : Nat) : Int) + 2)) dL_law_1244 (w_ok (by omega) (by omega)) ?_
      refine a_sld (i + 2) dL_law_1245 (by omega) (by omega) ?_
      rw [ha2]
      refine a_aload_n (j := 0) dL_law_1246 rfl rfl (Nat.le_of_ble_eq_true rfl) ?_
      refine a_iload_n (j := 3) dL_law_1247 rfl rfl ?_
      refine a_iconst dL_law_1248 ⟨by decide, by decide⟩ ?_
      refine a_iadd (z := (((i : Nat) : Int) + 3)) dL_law_1249 (w_ok (by omega) (by omega)) ?_
      refine a_sld (i + 3) dL_law_1250 (by omega) (by omega) ?_
      rw [ha3]
      refine b_callV (d' := d - 1) (mc' := 0) (ms' := 0) (mc1 := mc) (ms1 := ms) (st := [vI (-1000000001)]) (b := 123) [vI a1, vI a2, vI a3] dL_law_1251 mwX9_sheet lkL_154 (by decide) rfl rc_X9 rfl (Nat.le_of_ble_eq_true rfl) (by omega) (by omega) (by omega) (c_X9_sheet (f1 := (h 147)) (by omega)  rfl  (fun t1_1_3 t10_2_3 c17_3_3 c30_4_3 c54_5_3 => ?_) (fun t1_1_3 t10_2_3 c17_3_3 c30_4_3 c54_5_3 => ?_) (fun t1_1_3 t10_2_3 c17_3_3 c30_4_3 c34_6_3 c54_7_3 => ?_) (fun t1_1_3 t10_2_3 c17_3_3 c30_4_3 c34_6_3 c54_7_3 => ?_) (fun t1_1_3 t10_2_3 c17_3_3 c30_4_3 c34_6_3 => ?_) (fun t1_1_3 t10_2_3 c17_3_3 c23_8_3 c30_9_3 c54_10_3 => ?_) (fun t1_1_3 t10_2_3 c17_3_3 c23_8_3 c30_9_3 c54_10_3 => ?_) (fun t1_1_3 t10_2_3 c17_3_3 c23_8_3 c30_9_3 c34_11_3 c54_12_3 => ?_) (fun t1_1_3 t10_2_3 c17_3_3 c23_8_3 c30_9_3 c34_11_3 c54_12_3 => ?_) (fun t1_1_3 t10_2_3 c17_3_3 c23_8_3 c30_9_3 c34_11_3 => ?_) (fun t1_1_3 t10_2_3 c17_3_3 c23_8_3 => ?_) (fun t1_1_3 t10_2_3 => ?_) (fun t1_1_3 => ?_))
      · exfalso
        omega
      · exfalso
        omega
      · exfalso
        omega
      · exfalso
        omega
      · exfalso
        omega
      · exfalso
        omega
      · exfalso
        omega
      · exfalso
        omega
      · exfalso
        omega
      · exfalso
        omega
      · exfalso
        omega
      · exfalso
        omega
      · have t1_1_3 : ¬ (0 ≤ a1 ∧ a1 ≤ 3) := t1_1_3
        show Aj γ mL_law d mc ms Post 1254 [(0, vK 0), (1, vA 0), (2, vA 123), (3, vI ((i : Nat) : Int))] [vI (-1000000001), vI (-1000000001)] (mk h τ)
        refine a_icmp_eq (tgt := 1668) dL_law_1254 (by decide) (fun _ => ?_) (fun c => absurd c (by decide))
        exact kE h N J (IV_up (by omega) hI)
  · obtain ⟨s0, rfl⟩ : ∃ z : Nat, a1 = (z : Int) := ⟨Int.toNat a1, by omega⟩
    obtain ⟨k0, k1, k2, k3, k4⟩ := hO.2.1 s0 (by omega)
    refine a_aload_n (j := 1) dL_law_1216 rfl rfl (Nat.le_of_ble_eq_true rfl) ?_
    refine a_aload_n (j := 0) dL_law_1217 rfl rfl (Nat.le_of_ble_eq_true rfl) ?_
    refine a_iload_n (j := 3) dL_law_1218 rfl rfl ?_
    refine a_iconst dL_law_1219 ⟨by decide, by decide⟩ ?_
    refine a_iadd (z := (((i : Nat) : Int) + 1)) dL_law_1220 (w_ok (by omega) (by omega)) ?_
    refine a_sld (i + 1) dL_law_1221 (by omega) (by omega) ?_
    rw [ha1]
    refine a_aload_n (j := 0) dL_law_1222 rfl rfl (Nat.le_of_ble_eq_true rfl) ?_
    refine a_iload_n (j := 3) dL_law_1223 rfl rfl ?_
    refine a_iconst dL_law_1224 ⟨by decide, by decide⟩ ?_
    refine a_iadd (z := (((i : Nat) : Int) + 2)) dL_law_1225 (w_ok (by omega) (by omega)) ?_
    refine a_sld (i + 2) dL_law_1226 (by omega) (by omega) ?_
    rw [ha2]
    refine a_aload_n (j := 0) dL_law_1227 rfl rfl (Nat.le_of_ble_eq_true rfl) ?_
    refine a_iload_n (j := 3) dL_law_1228 rfl rfl ?_
    refine a_iconst dL_law_1229 ⟨by decide, by decide⟩ ?_
    refine a_iadd (z := (((i : Nat) : Int) + 3)) dL_law_1230 (w_ok (by omega) (by omega)) ?_
    refine a_sld (i + 3) dL_law_1231 (by omega) (by omega) ?_
    rw [ha3]
    refine b_callV (d' := d - 1) (mc' := 0) (ms' := 0) (mc1 := mc) (ms1 := ms) (st := []) (b := 0) [vI ((s0 : Nat) : Int), vI a2, vI a3] dL_law_1232 mwX8_sheet lkL_151 (by decide) rfl rc_X8 rfl (Nat.le_of_ble_eq_true rfl) (by omega) (by omega) (by omega) (c_X8_sheet (f1 := (h ((90 + 2 * s0) + 1))) (by omega)  rfl  (fun t1_1_1 t10_2_1 c21_3_1 c40_4_1 c47_5_1 => ?_) (fun t1_1_1 t10_2_1 c21_3_1 c40_4_1 c47_5_1 => ?_) (fun t1_1_1 t10_2_1 c21_3_1 c40_4_1 => ?_) (fun t1_1_1 t10_2_1 c21_3_1 => ?_) (fun t1_1_1 t10_2_1 => ?_) (fun t1_1_1 => ?_))
    · have t1_1_1 : 0 ≤ ((s0 : Nat) : Int) ∧ ((s0 : Nat) : Int) ≤ 3 := t1_1_1
      have t10_2_1 : (-1) ≤ a2 ∧ a2 ≤ 1 := t10_2_1
      have c21_3_1 : ¬ a2 = (-1) := c21_3_1
      have c40_4_1 : a3 ≤ 24 := c40_4_1
      have c47_5_1 : 0 ≤ a3 := c47_5_1
      show Aj γ mL_law d mc ms Post 1235 [(0, vK 0), (1, vA 0), (2, vA 123), (3, vI ((i : Nat) : Int))] [vI a3] (mk (upR (up2 (up2 h (90 + 2 * s0) 0 a2) (90 + 2 * s0) 1 a3) ((90 + 2 * s0) + 1) (fillR 0 24 (h ((90 + 2 * s0) + 1)))) τ)
      refine a_aload_n (j := 2) dL_law_1235 rfl rfl (Nat.le_of_ble_eq_true rfl) ?_
      refine a_aload_n (j := 0) dL_law_1236 rfl rfl (Nat.le_of_ble_eq_true rfl) ?_
      refine a_iload_n (j := 3) dL_law_1237 rfl rfl ?_
      refine a_iconst dL_law_1238 ⟨by decide, by decide⟩ ?_
      refine a_iadd (z := (((i : Nat) : Int) + 1)) dL_law_1239 (w_ok (by omega) (by omega)) ?_
      refine a_sld (i + 1) dL_law_1240 (by omega) (by omega) ?_
      rw [ha1]
      refine a_aload_n (j := 0) dL_law_1241 rfl rfl (Nat.le_of_ble_eq_true rfl) ?_
      refine a_iload_n (j := 3) dL_law_1242 rfl rfl ?_
      refine a_iconst dL_law_1243 ⟨by decide, by decide⟩ ?_
      refine a_iadd (z := (((i : Nat) : Int) + 2)) dL_law_1244 (w_ok (by omega) (by omega)) ?_
      refine a_sld (i + 2) dL_law_1245 (by omega) (by omega) ?_
      rw [ha2]
      refine a_aload_n (j := 0) dL_law_1246 rfl rfl (Nat.le_of_ble_eq_true rfl) ?_
      refine a_iload_n (j := 3) dL_law_1247 rfl rfl ?_
      refine a_iconst dL_law_1248 ⟨by decide, by decide⟩ ?_
      refine a_iadd (z := (((i : Nat) : Int) + 3)) dL_law_1249 (w_ok (by omega) (by omega)) ?_
      refine a_sld (i + 3) dL_law_1250 (by omega) (by omega) ?_
      rw [ha3]
      refine b_callV (d' := d - 1) (mc' := 0) (ms' := 0) (mc1 := mc) (ms1 := ms) (st := [vI a3]) (b := 123) [vI ((s0 : Nat) : Int), vI a2, vI a3] dL_law_1251 mwX9_sheet lkL_154 (by decide) rfl rc_X9 rfl (Nat.le_of_ble_eq_true rfl) (by omega) (by omega) (by omega) (c_X9_sheet (f1 := (h 147)) (by omega)  ((upR_rn (by omega)).trans ((up2_row (by omega)).trans ((up2_row (by omega)).trans rfl)))  (fun t1_1_3 t10_2_3 c17_3_3 c30_4_3 c54_5_3 => ?_) (fun t1_1_3 t10_2_3 c17_3_3 c30_4_3 c54_5_3 => ?_) (fun t1_1_3 t10_2_3 c17_3_3 c30_4_3 c34_6_3 c54_7_3 => ?_) (fun t1_1_3 t10_2_3 c17_3_3 c30_4_3 c34_6_3 c54_7_3 => ?_) (fun t1_1_3 t10_2_3 c17_3_3 c30_4_3 c34_6_3 => ?_) (fun t1_1_3 t10_2_3 c17_3_3 c23_8_3 c30_9_3 c54_10_3 => ?_) (fun t1_1_3 t10_2_3 c17_3_3 c23_8_3 c30_9_3 c54_10_3 => ?_) (fun t1_1_3 t10_2_3 c17_3_3 c23_8_3 c30_9_3 c34_11_3 c54_12_3 => ?_) (fun t1_1_3 t10_2_3 c17_3_3 c23_8_3 c30_9_3 c34_11_3 c54_12_3 => ?_) (fun t1_1_3 t10_2_3 c17_3_3 c23_8_3 c30_9_3 c34_11_3 => ?_) (fun t1_1_3 t10_2_3 c17_3_3 c23_8_3 => ?_) (fun t1_1_3 t10_2_3 => ?_) (fun t1_1_3 => ?_))
      · have t1_1_3 : 0 ≤ ((s0 : Nat) : Int) ∧ ((s0 : Nat) : Int) ≤ 3 := t1_1_3
        have t10_2_3 : (-1) ≤ a2 ∧ a2 ≤ 1 := t10_2_3
        have c17_3_3 : a2 < 0 := c17_3_3
        have c30_4_3 : a2 < 0 := c30_4_3
        have c54_5_3 : 0 ≤ a2 := c54_5_3
        show Aj γ mL_law d mc ms Post 1254 [(0, vK 0), (1, vA 0), (2, vA 123), (3, vI ((i : Nat) : Int))] [vI a3, vI a3] (mk (upR (up2 (up2 (upR (up2 (up2 h (90 + 2 * s0) 0 a2) (90 + 2 * s0) 1 a3) ((90 + 2 * s0) + 1) (fillR 0 24 (h ((90 + 2 * s0) + 1)))) 145 s0 a2) 146 s0 a3) 147 (segF 0 (Int.toNat (24 * ((s0 : Nat) : Int))) 24 (h 147))) τ)
        refine a_icmp_eq (tgt := 1668) dL_law_1254 (by decide) (fun c1254_5 => ?_) (fun c1254_5 => ?_)
        · generalize hHH : (upR (up2 (up2 (upR (up2 (up2 h (90 + 2 * s0) 0 a2) (90 + 2 * s0) 1 a3) ((90 + 2 * s0) + 1) (fillR 0 24 (h ((90 + 2 * s0) + 1)))) 145 s0 a2) 146 s0 a3) 147 (segF 0 (Int.toNat (24 * ((s0 : Nat) : Int))) 24 (h 147))) = H
          have gR : ∀ c, (c < 90 ∨ 98 ≤ c) → c ≠ 145 → c ≠ 146 → c ≠ 147 → H c = h c := fun c q0_ q1_ q2_ q3_ => by rw [← hHH]; exact ((upR_rn (by omega)).trans ((up2_row (by omega)).trans ((up2_row (by omega)).trans ((upR_rn (by omega)).trans ((up2_row (by omega)).trans ((up2_row (by omega)).trans rfl))))))
          have e0_ : H (90 + 2 * s0) 0 = a2 := by rw [← hHH]; exact ((upR_ne (by omega)).trans ((up2_ne (by omega)).trans ((up2_ne (by omega)).trans ((upR_ne (by omega)).trans ((up2_ne (by omega)).trans (up2_hit (by omega) (by omega)))))))
          have e1_ : H (90 + 2 * s0) 1 = a3 := by rw [← hHH]; exact ((upR_ne (by omega)).trans ((up2_ne (by omega)).trans ((up2_ne (by omega)).trans ((upR_ne (by omega)).trans (up2_hit (by omega) (by omega))))))
          have e3_ : ∀ c, 90 ≤ c → c < 98 → c ≠ 90 + 2 * s0 → c ≠ 90 + 2 * s0 + 1 → H c = h c := fun c q0_ q1_ q2_ q3_ => by rw [← hHH]; exact ((upR_rn (by omega)).trans ((up2_row (by omega)).trans ((up2_row (by omega)).trans ((upR_rn (by omega)).trans ((up2_row (by omega)).trans ((up2_row (by omega)).trans rfl))))))
          have e5_ : H 145 s0 = a2 := by rw [← hHH]; exact ((upR_ne (by omega)).trans ((up2_ne (by omega)).trans (up2_hit (by omega) (by omega))))
          have e5o : ∀ k : Nat, k ≠ s0 → H 145 k = h 145 k := fun k q0_ => by rw [← hHH]; exact ((upR_ne (by omega)).trans ((up2_ne (by omega)).trans ((up2_ne (by omega)).trans ((upR_ne (by omega)).trans ((up2_ne (by omega)).trans ((up2_ne (by omega)).trans rfl))))))
          have e6_ : H 146 s0 = a3 := by rw [← hHH]; exact ((upR_ne (by omega)).trans (up2_hit (by omega) (by omega)))
          have e6o : ∀ k : Nat, k ≠ s0 → H 146 k = h 146 k := fun k q0_ => by rw [← hHH]; exact ((upR_ne (by omega)).trans ((up2_ne (by omega)).trans ((up2_ne (by omega)).trans ((upR_ne (by omega)).trans ((up2_ne (by omega)).trans ((up2_ne (by omega)).trans rfl))))))
          have e2_ : ∀ k : Nat, k < 24 → H ((90 + 2 * s0) + 1) k = 0 := fun k hk => by rw [show H ((90 + 2 * s0) + 1) k = ((fillR 0 24 (h ((90 + 2 * s0) + 1))) k) by rw [← hHH]; exact ((upR_ne (by omega)).trans ((up2_ne (by omega)).trans ((up2_ne (by omega)).trans (upR_hit (by omega)))))]; unfold fillR; rw [if_pos hk]
          have e7g : ∀ k : Nat, H 147 k = ((segF 0 (Int.toNat (24 * ((s0 : Nat) : Int))) 24 (h 147)) k) := fun k => by rw [← hHH]; exact (upR_hit (by omega))
          have e7_ : ∀ k : Nat, k < 24 → H 147 (24 * s0 + k) = 0 := fun k hk => by rw [e7g]; unfold segF; rw [if_pos (by omega)]
          have e8_ : ∀ k : Nat, k < 24 * s0 ∨ 24 * s0 + 24 ≤ k → H 147 k = h 147 k := fun k hk => by rw [e7g]; unfold segF; rw [if_neg (by omega)]
          have t1_ : H 84 1 = h 84 1 := by rw [← hHH]; exact ((upR_ne (by omega)).trans ((up2_ne (by omega)).trans ((up2_ne (by omega)).trans ((upR_ne (by omega)).trans ((up2_ne (by omega)).trans ((up2_ne (by omega)).trans rfl))))))
          have t3_ : H 123 17 = h 123 17 := by rw [← hHH]; exact ((upR_ne (by omega)).trans ((up2_ne (by omega)).trans ((up2_ne (by omega)).trans ((upR_ne (by omega)).trans ((up2_ne (by omega)).trans ((up2_ne (by omega)).trans rfl))))))
          have w0_ : H 0 12 = h 0 12 := by rw [← hHH]; exact ((upR_ne (by omega)).trans ((up2_ne (by omega)).trans ((up2_ne (by omega)).trans ((upR_ne (by omega)).trans ((up2_ne (by omega)).trans ((up2_ne (by omega)).trans rfl))))))
          have w1_ : H 123 44 = h 123 44 := by rw [← hHH]; exact ((upR_ne (by omega)).trans ((up2_ne (by omega)).trans ((up2_ne (by omega)).trans ((upR_ne (by omega)).trans ((up2_ne (by omega)).trans ((up2_ne (by omega)).trans rfl))))))
          have g0 : ∀ k : Nat, k ≠ 12 → H 0 k = h 0 k := fun k q0_ => by rw [← hHH]; exact ((upR_ne (by omega)).trans ((up2_ne (by omega)).trans ((up2_ne (by omega)).trans ((upR_ne (by omega)).trans ((up2_ne (by omega)).trans ((up2_ne (by omega)).trans rfl))))))
          have gF : ∀ c, ((1 ≤ c ∧ c < 84) ∨ (124 ≤ c ∧ c < 137)) → H c = h c := fun c q0_ => by rw [← hHH]; exact ((upR_rn (by omega)).trans ((up2_row (by omega)).trans ((up2_row (by omega)).trans ((upR_rn (by omega)).trans ((up2_row (by omega)).trans ((up2_row (by omega)).trans rfl))))))
          have k3_ : H 123 3 = h 123 3 := by rw [← hHH]; exact ((upR_ne (by omega)).trans ((up2_ne (by omega)).trans ((up2_ne (by omega)).trans ((upR_ne (by omega)).trans ((up2_ne (by omega)).trans ((up2_ne (by omega)).trans rfl))))))
          have k4_ : H 123 4 = h 123 4 := by rw [← hHH]; exact ((upR_ne (by omega)).trans ((up2_ne (by omega)).trans ((up2_ne (by omega)).trans ((upR_ne (by omega)).trans ((up2_ne (by omega)).trans ((up2_ne (by omega)).trans rfl))))))
          have k9_ : H 123 9 = h 123 9 := by rw [← hHH]; exact ((upR_ne (by omega)).trans ((up2_ne (by omega)).trans ((up2_ne (by omega)).trans ((upR_ne (by omega)).trans ((up2_ne (by omega)).trans ((up2_ne (by omega)).trans rfl))))))
          have g3 : ∀ k, k = 3 ∨ k = 4 ∨ k = 9 → H 123 k = h 123 k := fun k hk => by rcases hk with rfl | rfl | rfl; exact k3_; exact k4_; exact k9_
          exact kE H N J (IV_up (by omega) (IV_o hI gF g0 g3 ⟨TPE_fr t1_ (gR 85 (by omega) (by decide) (by decide) (by decide)) t3_ (gR 137 (by omega) (by decide) (by decide) (by decide)) hO.1, SHE_b (so := a2) (sz := a3) (by omega) (by omega) (by omega) e0_ e1_ e2_ e3_ (by rw [e5_] <;> omega) e5o (by rw [e6_] <;> omega) e6o e7_ e8_ hO.2.1, SLE_fr (fun c h1 h2 => gR c (by omega) (by omega) (by omega) (by omega)) (gR 148 (by omega) (by decide) (by decide) (by decide)) (gR 149 (by omega) (by decide) (by decide) (by decide)) (gR 150 (by omega) (by decide) (by decide) (by decide)) (gR 151 (by omega) (by decide) (by decide) (by decide)) hO.2.2.1, WTE_fr w0_ w1_ (gR 89 (by omega) (by decide) (by decide) (by decide)) (gR 153 (by omega) (by decide) (by decide) (by decide)) hO.2.2.2.1, CNE_fr (gR 138 (by omega) (by decide) (by decide) (by decide)) (gR 139 (by omega) (by decide) (by decide) (by decide)) hO.2.2.2.2⟩))
        · refine a_iconst dL_law_1257 ⟨by decide, by decide⟩ ?_
          exact a_zret dL_law_1258 rfl (by first | exact Or.inl rfl | exact Or.inr rfl | omega) (by exfalso; omega)
      · have t1_1_3 : 0 ≤ ((s0 : Nat) : Int) ∧ ((s0 : Nat) : Int) ≤ 3 := t1_1_3
        have t10_2_3 : (-1) ≤ a2 ∧ a2 ≤ 1 := t10_2_3
        have c17_3_3 : a2 < 0 := c17_3_3
        have c30_4_3 : a2 < 0 := c30_4_3
        have c54_5_3 : ¬ 0 ≤ a2 := c54_5_3
        show Aj γ mL_law d mc ms Post 1254 [(0, vK 0), (1, vA 0), (2, vA 123), (3, vI ((i : Nat) : Int))] [vI 0, vI a3] (mk (upR (up2 (up2 (upR (up2 (up2 h (90 + 2 * s0) 0 a2) (90 + 2 * s0) 1 a3) ((90 + 2 * s0) + 1) (fillR 0 24 (h ((90 + 2 * s0) + 1)))) 145 s0 a2) 146 s0 0) 147 (segF 0 (Int.toNat (24 * ((s0 : Nat) : Int))) 24 (h 147))) τ)
        refine a_icmp_eq (tgt := 1668) dL_law_1254 (by decide) (fun c1254_6 => ?_) (fun c1254_6 => ?_)
        · generalize hHH : (upR (up2 (up2 (upR (up2 (up2 h (90 + 2 * s0) 0 a2) (90 + 2 * s0) 1 a3) ((90 + 2 * s0) + 1) (fillR 0 24 (h ((90 + 2 * s0) + 1)))) 145 s0 a2) 146 s0 0) 147 (segF 0 (Int.toNat (24 * ((s0 : Nat) : Int))) 24 (h 147))) = H
          have gR : ∀ c, (c < 90 ∨ 98 ≤ c) → c ≠ 145 → c ≠ 146 → c ≠ 147 → H c = h c := fun c q0_ q1_ q2_ q3_ => by rw [← hHH]; exact ((upR_rn (by omega)).trans ((up2_row (by omega)).trans ((up2_row (by omega)).trans ((upR_rn (by omega)).trans ((up2_row (by omega)).trans ((up2_row (by omega)).trans rfl))))))
          have e0_ : H (90 + 2 * s0) 0 = a2 := by rw [← hHH]; exact ((upR_ne (by omega)).trans ((up2_ne (by omega)).trans ((up2_ne (by omega)).trans ((upR_ne (by omega)).trans ((up2_ne (by omega)).trans (up2_hit (by omega) (by omega)))))))
          have e1_ : H (90 + 2 * s0) 1 = a3 := by rw [← hHH]; exact ((upR_ne (by omega)).trans ((up2_ne (by omega)).trans ((up2_ne (by omega)).trans ((upR_ne (by omega)).trans (up2_hit (by omega) (by omega))))))
          have e3_ : ∀ c, 90 ≤ c → c < 98 → c ≠ 90 + 2 * s0 → c ≠ 90 + 2 * s0 + 1 → H c = h c := fun c q0_ q1_ q2_ q3_ => by rw [← hHH]; exact ((upR_rn (by omega)).trans ((up2_row (by omega)).trans ((up2_row (by omega)).trans ((upR_rn (by omega)).trans ((up2_row (by omega)).trans ((up2_row (by omega)).trans rfl))))))
          have e5_ : H 145 s0 = a2 := by rw [← hHH]; exact ((upR_ne (by omega)).trans ((up2_ne (by omega)).trans (up2_hit (by omega) (by omega))))
          have e5o : ∀ k : Nat, k ≠ s0 → H 145 k = h 145 k := fun k q0_ => by rw [← hHH]; exact ((upR_ne (by omega)).trans ((up2_ne (by omega)).trans ((up2_ne (by omega)).trans ((upR_ne (by omega)).trans ((up2_ne (by omega)).trans ((up2_ne (by omega)).trans rfl))))))
          have e6_ : H 146 s0 = 0 := by rw [← hHH]; exact ((upR_ne (by omega)).trans (up2_hit (by omega) (by omega)))
          have e6o : ∀ k : Nat, k ≠ s0 → H 146 k = h 146 k := fun k q0_ => by rw [← hHH]; exact ((upR_ne (by omega)).trans ((up2_ne (by omega)).trans ((up2_ne (by omega)).trans ((upR_ne (by omega)).trans ((up2_ne (by omega)).trans ((up2_ne (by omega)).trans rfl))))))
          have e2_ : ∀ k : Nat, k < 24 → H ((90 + 2 * s0) + 1) k = 0 := fun k hk => by rw [show H ((90 + 2 * s0) + 1) k = ((fillR 0 24 (h ((90 + 2 * s0) + 1))) k) by rw [← hHH]; exact ((upR_ne (by omega)).trans ((up2_ne (by omega)).trans ((up2_ne (by omega)).trans (upR_hit (by omega)))))]; unfold fillR; rw [if_pos hk]
          have e7g : ∀ k : Nat, H 147 k = ((segF 0 (Int.toNat (24 * ((s0 : Nat) : Int))) 24 (h 147)) k) := fun k => by rw [← hHH]; exact (upR_hit (by omega))
          have e7_ : ∀ k : Nat, k < 24 → H 147 (24 * s0 + k) = 0 := fun k hk => by rw [e7g]; unfold segF; rw [if_pos (by omega)]
          have e8_ : ∀ k : Nat, k < 24 * s0 ∨ 24 * s0 + 24 ≤ k → H 147 k = h 147 k := fun k hk => by rw [e7g]; unfold segF; rw [if_neg (by omega)]
          have t1_ : H 84 1 = h 84 1 := by rw [← hHH]; exact ((upR_ne (by omega)).trans ((up2_ne (by omega)).trans ((up2_ne (by omega)).trans ((upR_ne (by omega)).trans ((up2_ne (by omega)).trans ((up2_ne (by omega)).trans rfl))))))
          have t3_ : H 123 17 = h 123 17 := by rw [← hHH]; exact ((upR_ne (by omega)).trans ((up2_ne (by omega)).trans ((up2_ne (by omega)).trans ((upR_ne (by omega)).trans ((up2_ne (by omega)).trans ((up2_ne (by omega)).trans rfl))))))
          have w0_ : H 0 12 = h 0 12 := by rw [← hHH]; exact ((upR_ne (by omega)).trans ((up2_ne (by omega)).trans ((up2_ne (by omega)).trans ((upR_ne (by omega)).trans ((up2_ne (by omega)).trans ((up2_ne (by omega)).trans rfl))))))
          have w1_ : H 123 44 = h 123 44 := by rw [← hHH]; exact ((upR_ne (by omega)).trans ((up2_ne (by omega)).trans ((up2_ne (by omega)).trans ((upR_ne (by omega)).trans ((up2_ne (by omega)).trans ((up2_ne (by omega)).trans rfl))))))
          have g0 : ∀ k : Nat, k ≠ 12 → H 0 k = h 0 k := fun k q0_ => by rw [← hHH]; exact ((upR_ne (by omega)).trans ((up2_ne (by omega)).trans ((up2_ne (by omega)).trans ((upR_ne (by omega)).trans ((up2_ne (by omega)).trans ((up2_ne (by omega)).trans rfl))))))
          have gF : ∀ c, ((1 ≤ c ∧ c < 84) ∨ (124 ≤ c ∧ c < 137)) → H c = h c := fun c q0_ => by rw [← hHH]; exact ((upR_rn (by omega)).trans ((up2_row (by omega)).trans ((up2_row (by omega)).trans ((upR_rn (by omega)).trans ((up2_row (by omega)).trans ((up2_row (by omega)).trans rfl))))))
          have k3_ : H 123 3 = h 123 3 := by rw [← hHH]; exact ((upR_ne (by omega)).trans ((up2_ne (by omega)).trans ((up2_ne (by omega)).trans ((upR_ne (by omega)).trans ((up2_ne (by omega)).trans ((up2_ne (by omega)).trans rfl))))))
          have k4_ : H 123 4 = h 123 4 := by rw [← hHH]; exact ((upR_ne (by omega)).trans ((up2_ne (by omega)).trans ((up2_ne (by omega)).trans ((upR_ne (by omega)).trans ((up2_ne (by omega)).trans ((up2_ne (by omega)).trans rfl))))))
          have k9_ : H 123 9 = h 123 9 := by rw [← hHH]; exact ((upR_ne (by omega)).trans ((up2_ne (by omega)).trans ((up2_ne (by omega)).trans ((upR_ne (by omega)).trans ((up2_ne (by omega)).trans ((up2_ne (by omega)).trans rfl))))))
          have g3 : ∀ k, k = 3 ∨ k = 4 ∨ k = 9 → H 123 k = h 123 k := fun k hk => by rcases hk with rfl | rfl | rfl; exact k3_; exact k4_; exact k9_
          exact kE H N J (IV_up (by omega) (IV_o hI gF g0 g3 ⟨TPE_fr t1_ (gR 85 (by omega) (by decide) (by decide) (by decide)) t3_ (gR 137 (by omega) (by decide) (by decide) (by decide)) hO.1, SHE_b (so := a2) (sz := a3) (by omega) (by omega) (by omega) e0_ e1_ e2_ e3_ (by rw [e5_] <;> omega) e5o (by rw [e6_] <;> omega) e6o e7_ e8_ hO.2.1, SLE_fr (fun c h1 h2 => gR c (by omega) (by omega) (by omega) (by omega)) (gR 148 (by omega) (by decide) (by decide) (by decide)) (gR 149 (by omega) (by decide) (by decide) (by decide)) (gR 150 (by omega) (by decide) (by decide) (by decide)) (gR 151 (by omega) (by decide) (by decide) (by decide)) hO.2.2.1, WTE_fr w0_ w1_ (gR 89 (by omega) (by decide) (by decide) (by decide)) (gR 153 (by omega) (by decide) (by decide) (by decide)) hO.2.2.2.1, CNE_fr (gR 138 (by omega) (by decide) (by decide) (by decide)) (gR 139 (by omega) (by decide) (by decide) (by decide)) hO.2.2.2.2⟩))
        · refine a_iconst dL_law_1257 ⟨by decide, by decide⟩ ?_
          exact a_zret dL_law_1258 rfl (by first | exact Or.inl rfl | exact Or.inr rfl | omega) (by exfalso; omega)
      · exfalso
        omega
      · exfalso
        omega
      · exfalso
        omega
      · exfalso
        omega
      · exfalso
        omega
      · have t1_1_3 : 0 ≤ ((s0 : Nat) : Int) ∧ ((s0 : Nat) : Int) ≤ 3 := t1_1_3
        have t10_2_3 : (-1) ≤ a2 ∧ a2 ≤ 1 := t10_2_3
        have c17_3_3 : ¬ a2 < 0 := c17_3_3
        have c23_8_3 : a3 ≤ 24 := c23_8_3
        have c30_9_3 : ¬ a2 < 0 := c30_9_3
        have c34_11_3 : 0 ≤ a3 := c34_11_3
        have c54_12_3 : 0 ≤ a2 := c54_12_3
        show Aj γ mL_law d mc ms Post 1254 [(0, vK 0), (1, vA 0), (2, vA 123), (3, vI ((i : Nat) : Int))] [vI a3, vI a3] (mk (upR (up2 (up2 (upR (up2 (up2 h (90 + 2 * s0) 0 a2) (90 + 2 * s0) 1 a3) ((90 + 2 * s0) + 1) (fillR 0 24 (h ((90 + 2 * s0) + 1)))) 145 s0 a2) 146 s0 a3) 147 (segF 0 (Int.toNat (24 * ((s0 : Nat) : Int))) 24 (h 147))) τ)
        refine a_icmp_eq (tgt := 1668) dL_law_1254 (by decide) (fun c1254_7 => ?_) (fun c1254_7 => ?_)
        · generalize hHH : (upR (up2 (up2 (upR (up2 (up2 h (90 + 2 * s0) 0 a2) (90 + 2 * s0) 1 a3) ((90 + 2 * s0) + 1) (fillR 0 24 (h ((90 + 2 * s0) + 1)))) 145 s0 a2) 146 s0 a3) 147 (segF 0 (Int.toNat (24 * ((s0 : Nat) : Int))) 24 (h 147))) = H
          have gR : ∀ c, (c < 90 ∨ 98 ≤ c) → c ≠ 145 → c ≠ 146 → c ≠ 147 → H c = h c := fun c q0_ q1_ q2_ q3_ => by rw [← hHH]; exact ((upR_rn (by omega)).trans ((up2_row (by omega)).trans ((up2_row (by omega)).trans ((upR_rn (by omega)).trans ((up2_row (by omega)).trans ((up2_row (by omega)).trans rfl))))))
          have e0_ : H (90 + 2 * s0) 0 = a2 := by rw [← hHH]; exact ((upR_ne (by omega)).trans ((up2_ne (by omega)).trans ((up2_ne (by omega)).trans ((upR_ne (by omega)).trans ((up2_ne (by omega)).trans (up2_hit (by omega) (by omega)))))))
          have e1_ : H (90 + 2 * s0) 1 = a3 := by rw [← hHH]; exact ((upR_ne (by omega)).trans ((up2_ne (by omega)).trans ((up2_ne (by omega)).trans ((upR_ne (by omega)).trans (up2_hit (by omega) (by omega))))))
          have e3_ : ∀ c, 90 ≤ c → c < 98 → c ≠ 90 + 2 * s0 → c ≠ 90 + 2 * s0 + 1 → H c = h c := fun c q0_ q1_ q2_ q3_ => by rw [← hHH]; exact ((upR_rn (by omega)).trans ((up2_row (by omega)).trans ((up2_row (by omega)).trans ((upR_rn (by omega)).trans ((up2_row (by omega)).trans ((up2_row (by omega)).trans rfl))))))
          have e5_ : H 145 s0 = a2 := by rw [← hHH]; exact ((upR_ne (by omega)).trans ((up2_ne (by omega)).trans (up2_hit (by omega) (by omega))))
          have e5o : ∀ k : Nat, k ≠ s0 → H 145 k = h 145 k := fun k q0_ => by rw [← hHH]; exact ((upR_ne (by omega)).trans ((up2_ne (by omega)).trans ((up2_ne (by omega)).trans ((upR_ne (by omega)).trans ((up2_ne (by omega)).trans ((up2_ne (by omega)).trans rfl))))))
          have e6_ : H 146 s0 = a3 := by rw [← hHH]; exact ((upR_ne (by omega)).trans (up2_hit (by omega) (by omega)))
          have e6o : ∀ k : Nat, k ≠ s0 → H 146 k = h 146 k := fun k q0_ => by rw [← hHH]; exact ((upR_ne (by omega)).trans ((up2_ne (by omega)).trans ((up2_ne (by omega)).trans ((upR_ne (by omega)).trans ((up2_ne (by omega)).trans ((up2_ne (by omega)).trans rfl))))))
          have e2_ : ∀ k : Nat, k < 24 → H ((90 + 2 * s0) + 1) k = 0 := fun k hk => by rw [show H ((90 + 2 * s0) + 1) k = ((fillR 0 24 (h ((90 + 2 * s0) + 1))) k) by rw [← hHH]; exact ((upR_ne (by omega)).trans ((up2_ne (by omega)).trans ((up2_ne (by omega)).trans (upR_hit (by omega)))))]; unfold fillR; rw [if_pos hk]
          have e7g : ∀ k : Nat, H 147 k = ((segF 0 (Int.toNat (24 * ((s0 : Nat) : Int))) 24 (h 147)) k) := fun k => by rw [← hHH]; exact (upR_hit (by omega))
          have e7_ : ∀ k : Nat, k < 24 → H 147 (24 * s0 + k) = 0 := fun k hk => by rw [e7g]; unfold segF; rw [if_pos (by omega)]
          have e8_ : ∀ k : Nat, k < 24 * s0 ∨ 24 * s0 + 24 ≤ k → H 147 k = h 147 k := fun k hk => by rw [e7g]; unfold segF; rw [if_neg (by omega)]
          have t1_ : H 84 1 = h 84 1 := by rw [← hHH]; exact ((upR_ne (by omega)).trans ((up2_ne (by omega)).trans ((up2_ne (by omega)).trans ((upR_ne (by omega)).trans ((up2_ne (by omega)).trans ((up2_ne (by omega)).trans rfl))))))
          have t3_ : H 123 17 = h 123 17 := by rw [← hHH]; exact ((upR_ne (by omega)).trans ((up2_ne (by omega)).trans ((up2_ne (by omega)).trans ((upR_ne (by omega)).trans ((up2_ne (by omega)).trans ((up2_ne (by omega)).trans rfl))))))
          have w0_ : H 0 12 = h 0 12 := by rw [← hHH]; exact ((upR_ne (by omega)).trans ((up2_ne (by omega)).trans ((up2_ne (by omega)).trans ((upR_ne (by omega)).trans ((up2_ne (by omega)).trans ((up2_ne (by omega)).trans rfl))))))
          have w1_ : H 123 44 = h 123 44 := by rw [← hHH]; exact ((upR_ne (by omega)).trans ((up2_ne (by omega)).trans ((up2_ne (by omega)).trans ((upR_ne (by omega)).trans ((up2_ne (by omega)).trans ((up2_ne (by omega)).trans rfl))))))
          have g0 : ∀ k : Nat, k ≠ 12 → H 0 k = h 0 k := fun k q0_ => by rw [← hHH]; exact ((upR_ne (by omega)).trans ((up2_ne (by omega)).trans ((up2_ne (by omega)).trans ((upR_ne (by omega)).trans ((up2_ne (by omega)).trans ((up2_ne (by omega)).trans rfl))))))
          have gF : ∀ c, ((1 ≤ c ∧ c < 84) ∨ (124 ≤ c ∧ c < 137)) → H c = h c := fun c q0_ => by rw [← hHH]; exact ((upR_rn (by omega)).trans ((up2_row (by omega)).trans ((up2_row (by omega)).trans ((upR_rn (by omega)).trans ((up2_row (by omega)).trans ((up2_row (by omega)).trans rfl))))))
          have k3_ : H 123 3 = h 123 3 := by rw [← hHH]; exact ((upR_ne (by omega)).trans ((up2_ne (by omega)).trans ((up2_ne (by omega)).trans ((upR_ne (by omega)).trans ((up2_ne (by omega)).trans ((up2_ne (by omega)).trans rfl))))))
          have k4_ : H 123 4 = h 123 4 := by rw [← hHH]; exact ((upR_ne (by omega)).trans ((up2_ne (by omega)).trans ((up2_ne (by omega)).trans ((upR_ne (by omega)).trans ((up2_ne (by omega)).trans ((up2_ne (by omega)).trans rfl))))))
          have k9_ : H 123 9 = h 123 9 := by rw [← hHH]; exact ((upR_ne (by omega)).trans ((up2_ne (by omega)).trans ((up2_ne (by omega)).trans ((upR_ne (by omega)).trans ((up2_ne (by omega)).trans ((up2_ne (by omega)).trans rfl))))))
          have g3 : ∀ k, k = 3 ∨ k = 4 ∨ k = 9 → H 123 k = h 123 k := fun k hk => by rcases hk with rfl | rfl | rfl; exact k3_; exact k4_; exact k9_
          exact kE H N J (IV_up (by omega) (IV_o hI gF g0 g3 ⟨TPE_fr t1_ (gR 85 (by omega) (by decide) (by decide) (by decide)) t3_ (gR 137 (by omega) (by decide) (by decide) (by decide)) hO.1, SHE_b (so := a2) (sz := a3) (by omega) (by omega) (by omega) e0_ e1_ e2_ e3_ (by rw [e5_] <;> omega) e5o (by rw [e6_] <;> omega) e6o e7_ e8_ hO.2.1, SLE_fr (fun c h1 h2 => gR c (by omega) (by omega) (by omega) (by omega)) (gR 148 (by omega) (by decide) (by decide) (by decide)) (gR 149 (by omega) (by decide) (by decide) (by decide)) (gR 150 (by omega) (by decide) (by decide) (by decide)) (gR 151 (by omega) (by decide) (by decide) (by decide)) hO.2.2.1, WTE_fr w0_ w1_ (gR 89 (by omega) (by decide) (by decide) (by decide)) (gR 153 (by omega) (by decide) (by decide) (by decide)) hO.2.2.2.1, CNE_fr (gR 138 (by omega) (by decide) (by decide) (by decide)) (gR 139 (by omega) (by decide) (by decide) (by decide)) hO.2.2.2.2⟩))
        · refine a_iconst dL_law_1257 ⟨by decide, by decide⟩ ?_
          exact a_zret dL_law_1258 rfl (by first | exact Or.inl rfl | exact Or.inr rfl | omega) (by exfalso; omega)
      · have t1_1_3 : 0 ≤ ((s0 : Nat) : Int) ∧ ((s0 : Nat) : Int) ≤ 3 := t1_1_3
        have t10_2_3 : (-1) ≤ a2 ∧ a2 ≤ 1 := t10_2_3
        have c17_3_3 : ¬ a2 < 0 := c17_3_3
        have c23_8_3 : a3 ≤ 24 := c23_8_3
        have c30_9_3 : ¬ a2 < 0 := c30_9_3
        have c34_11_3 : 0 ≤ a3 := c34_11_3
        have c54_12_3 : ¬ 0 ≤ a2 := c54_12_3
        show Aj γ mL_law d mc ms Post 1254 [(0, vK 0), (1, vA 0), (2, vA 123), (3, vI ((i : Nat) : Int))] [vI 0, vI a3] (mk (upR (up2 (up2 (upR (up2 (up2 h (90 + 2 * s0) 0 a2) (90 + 2 * s0) 1 a3) ((90 + 2 * s0) + 1) (fillR 0 24 (h ((90 + 2 * s0) + 1)))) 145 s0 a2) 146 s0 0) 147 (segF 0 (Int.toNat (24 * ((s0 : Nat) : Int))) 24 (h 147))) τ)
        refine a_icmp_eq (tgt := 1668) dL_law_1254 (by decide) (fun c1254_8 => ?_) (fun c1254_8 => ?_)
        · generalize hHH : (upR (up2 (up2 (upR (up2 (up2 h (90 + 2 * s0) 0 a2) (90 + 2 * s0) 1 a3) ((90 + 2 * s0) + 1) (fillR 0 24 (h ((90 + 2 * s0) + 1)))) 145 s0 a2) 146 s0 0) 147 (segF 0 (Int.toNat (24 * ((s0 : Nat) : Int))) 24 (h 147))) = H
          have gR : ∀ c, (c < 90 ∨ 98 ≤ c) → c ≠ 145 → c ≠ 146 → c ≠ 147 → H c = h c := fun c q0_ q1_ q2_ q3_ => by rw [← hHH]; exact ((upR_rn (by omega)).trans ((up2_row (by omega)).trans ((up2_row (by omega)).trans ((upR_rn (by omega)).trans ((up2_row (by omega)).trans ((up2_row (by omega)).trans rfl))))))
          have e0_ : H (90 + 2 * s0) 0 = a2 := by rw [← hHH]; exact ((upR_ne (by omega)).trans ((up2_ne (by omega)).trans ((up2_ne (by omega)).trans ((upR_ne (by omega)).trans ((up2_ne (by omega)).trans (up2_hit (by omega) (by omega)))))))
          have e1_ : H (90 + 2 * s0) 1 = a3 := by rw [← hHH]; exact ((upR_ne (by omega)).trans ((up2_ne (by omega)).trans ((up2_ne (by omega)).trans ((upR_ne (by omega)).trans (up2_hit (by omega) (by omega))))))
          have e3_ : ∀ c, 90 ≤ c → c < 98 → c ≠ 90 + 2 * s0 → c ≠ 90 + 2 * s0 + 1 → H c = h c := fun c q0_ q1_ q2_ q3_ => by rw [← hHH]; exact ((upR_rn (by omega)).trans ((up2_row (by omega)).trans ((up2_row (by omega)).trans ((upR_rn (by omega)).trans ((up2_row (by omega)).trans ((up2_row (by omega)).trans rfl))))))
          have e5_ : H 145 s0 = a2 := by rw [← hHH]; exact ((upR_ne (by omega)).trans ((up2_ne (by omega)).trans (up2_hit (by omega) (by omega))))
          have e5o : ∀ k : Nat, k ≠ s0 → H 145 k = h 145 k := fun k q0_ => by rw [← hHH]; exact ((upR_ne (by omega)).trans ((up2_ne (by omega)).trans ((up2_ne (by omega)).trans ((upR_ne (by omega)).trans ((up2_ne (by omega)).trans ((up2_ne (by omega)).trans rfl))))))
          have e6_ : H 146 s0 = 0 := by rw [← hHH]; exact ((upR_ne (by omega)).trans (up2_hit (by omega) (by omega)))
          have e6o : ∀ k : Nat, k ≠ s0 → H 146 k = h 146 k := fun k q0_ => by rw [← hHH]; exact ((upR_ne (by omega)).trans ((up2_ne (by omega)).trans ((up2_ne (by omega)).trans ((upR_ne (by omega)).trans ((up2_ne (by omega)).trans ((up2_ne (by omega)).trans rfl))))))
          have e2_ : ∀ k : Nat, k < 24 → H ((90 + 2 * s0) + 1) k = 0 := fun k hk => by rw [show H ((90 + 2 * s0) + 1) k = ((fillR 0 24 (h ((90 + 2 * s0) + 1))) k) by rw [← hHH]; exact ((upR_ne (by omega)).trans ((up2_ne (by omega)).trans ((up2_ne (by omega)).trans (upR_hit (by omega)))))]; unfold fillR; rw [if_pos hk]
          have e7g : ∀ k : Nat, H 147 k = ((segF 0 (Int.toNat (24 * ((s0 : Nat) : Int))) 24 (h 147)) k) := fun k => by rw [← hHH]; exact (upR_hit (by omega))
          have e7_ : ∀ k : Nat, k < 24 → H 147 (24 * s0 + k) = 0 := fun k hk => by rw [e7g]; unfold segF; rw [if_pos (by omega)]
          have e8_ : ∀ k : Nat, k < 24 * s0 ∨ 24 * s0 + 24 ≤ k → H 147 k = h 147 k := fun k hk => by rw [e7g]; unfold segF; rw [if_neg (by omega)]
          have t1_ : H 84 1 = h 84 1 := by rw [← hHH]; exact ((upR_ne (by omega)).trans ((up2_ne (by omega)).trans ((up2_ne (by omega)).trans ((upR_ne (by omega)).trans ((up2_ne (by omega)).trans ((up2_ne (by omega)).trans rfl))))))
          have t3_ : H 123 17 = h 123 17 := by rw [← hHH]; exact ((upR_ne (by omega)).trans ((up2_ne (by omega)).trans ((up2_ne (by omega)).trans ((upR_ne (by omega)).trans ((up2_ne (by omega)).trans ((up2_ne (by omega)).trans rfl))))))
          have w0_ : H 0 12 = h 0 12 := by rw [← hHH]; exact ((upR_ne (by omega)).trans ((up2_ne (by omega)).trans ((up2_ne (by omega)).trans ((upR_ne (by omega)).trans ((up2_ne (by omega)).trans ((up2_ne (by omega)).trans rfl))))))
          have w1_ : H 123 44 = h 123 44 := by rw [← hHH]; exact ((upR_ne (by omega)).trans ((up2_ne (by omega)).trans ((up2_ne (by omega)).trans ((upR_ne (by omega)).trans ((up2_ne (by omega)).trans ((up2_ne (by omega)).trans rfl))))))
          have g0 : ∀ k : Nat, k ≠ 12 → H 0 k = h 0 k := fun k q0_ => by rw [← hHH]; exact ((upR_ne (by omega)).trans ((up2_ne (by omega)).trans ((up2_ne (by omega)).trans ((upR_ne (by omega)).trans ((up2_ne (by omega)).trans ((up2_ne (by omega)).trans rfl))))))
          have gF : ∀ c, ((1 ≤ c ∧ c < 84) ∨ (124 ≤ c ∧ c < 137)) → H c = h c := fun c q0_ => by rw [← hHH]; exact ((upR_rn (by omega)).trans ((up2_row (by omega)).trans ((up2_row (by omega)).trans ((upR_rn (by omega)).trans ((up2_row (by omega)).trans ((up2_row (by omega)).trans rfl))))))
          have k3_ : H 123 3 = h 123 3 := by rw [← hHH]; exact ((upR_ne (by omega)).trans ((up2_ne (by omega)).trans ((up2_ne (by omega)).trans ((upR_ne (by omega)).trans ((up2_ne (by omega)).trans ((up2_ne (by omega)).trans rfl))))))
          have k4_ : H 123 4 = h 123 4 := by rw [← hHH]; exact ((upR_ne (by omega)).trans ((up2_ne (by omega)).trans ((up2_ne (by omega)).trans ((upR_ne (by omega)).trans ((up2_ne (by omega)).trans ((up2_ne (by omega)).trans rfl))))))
          have k9_ : H 123 9 = h 123 9 := by rw [← hHH]; exact ((upR_ne (by omega)).trans ((up2_ne (by omega)).trans ((up2_ne (by omega)).trans ((upR_ne (by omega)).trans ((up2_ne (by omega)).trans ((up2_ne (by omega)).trans rfl))))))
          have g3 : ∀ k, k = 3 ∨ k = 4 ∨ k = 9 → H 123 k = h 123 k := fun k hk => by rcases hk with rfl | rfl | rfl; exact k3_; exact k4_; exact k9_
          exact kE H N J (IV_up (by omega) (IV_o hI gF g0 g3 ⟨TPE_fr t1_ (gR 85 (by omega) (by decide) (by decide) (by decide)) t3_ (gR 137 (by omega) (by decide) (by decide) (by decide)) hO.1, SHE_b (so := a2) (sz := a3) (by omega) (by omega) (by omega) e0_ e1_ e2_ e3_ (by rw [e5_] <;> omega) e5o (by rw [e6_] <;> omega) e6o e7_ e8_ hO.2.1, SLE_fr (fun c h1 h2 => gR c (by omega) (by omega) (by omega) (by omega)) (gR 148 (by omega) (by decide) (by decide) (by decide)) (gR 149 (by omega) (by decide) (by decide) (by decide)) (gR 150 (by omega) (by decide) (by decide) (by decide)) (gR 151 (by omega) (by decide) (by decide) (by decide)) hO.2.2.1, WTE_fr w0_ w1_ (gR 89 (by omega) (by decide) (by decide) (by decide)) (gR 153 (by omega) (by decide) (by decide) (by decide)) hO.2.2.2.1, CNE_fr (gR 138 (by omega) (by decide) (by decide) (by decide)) (gR 139 (by omega) (by decide) (by decide) (by decide)) hO.2.2.2.2⟩))
        · refine a_iconst dL_law_1257 ⟨by decide, by decide⟩ ?_
          exact a_zret dL_law_1258 rfl (by first | exact Or.inl rfl | exact Or.inr rfl | omega) (by exfalso; omega)
      · exfalso
        omega
      · exfalso
        omega
      · exfalso
        omega
      · exfalso
        omega
    · have t1_1_1 : 0 ≤ ((s0 : Nat) : Int) ∧ ((s0 : Nat) : Int) ≤ 3 := t1_1_1
      have t10_2_1 : (-1) ≤ a2 ∧ a2 ≤ 1 := t10_2_1
      have c21_3_1 : ¬ a2 = (-1) := c21_3_1
      have c40_4_1 : a3 ≤ 24 := c40_4_1
      have c47_5_1 : ¬ 0 ≤ a3 := c47_5_1
      show Aj γ mL_law d mc ms Post 1235 [(0, vK 0), (1, vA 0), (2, vA 123), (3, vI ((i : Nat) : Int))] [vI (-1000000014)] (mk h τ)
      refine a_aload_n (j := 2) dL_law_1235 rfl rfl (Nat.le_of_ble_eq_true rfl) ?_
      refine a_aload_n (j := 0) dL_law_1236 rfl rfl (Nat.le_of_ble_eq_true rfl) ?_
      refine a_iload_n (j := 3) dL_law_1237 rfl rfl ?_
      refine a_iconst dL_law_1238 ⟨by decide, by decide⟩ ?_
      refine a_iadd (z := (((i : Nat) : Int) + 1)) dL_law_1239 (w_ok (by omega) (by omega)) ?_
      refine a_sld (i + 1) dL_law_1240 (by omega) (by omega) ?_
      rw [ha1]
      refine a_aload_n (j := 0) dL_law_1241 rfl rfl (Nat.le_of_ble_eq_true rfl) ?_
      refine a_iload_n (j := 3) dL_law_1242 rfl rfl ?_
      refine a_iconst dL_law_1243 ⟨by decide, by decide⟩ ?_
      refine a_iadd (z := (((i : Nat) : Int) + 2)) dL_law_1244 (w_ok (by omega) (by omega)) ?_
      refine a_sld (i + 2) dL_law_1245 (by omega) (by omega) ?_
      rw [ha2]
      refine a_aload_n (j := 0) dL_law_1246 rfl rfl (Nat.le_of_ble_eq_true rfl) ?_
      refine a_iload_n (j := 3) dL_law_1247 rfl rfl ?_
      refine a_iconst dL_law_1248 ⟨by decide, by decide⟩ ?_
      refine a_iadd (z := (((i : Nat) : Int) + 3)) dL_law_1249 (w_ok (by omega) (by omega)) ?_
      refine a_sld (i + 3) dL_law_1250 (by omega) (by omega) ?_
      rw [ha3]
      refine b_callV (d' := d - 1) (mc' := 0) (ms' := 0) (mc1 := mc) (ms1 := ms) (st := [vI (-1000000014)]) (b := 123) [vI ((s0 : Nat) : Int), vI a2, vI a3] dL_law_1251 mwX9_sheet lkL_154 (by decide) rfl rc_X9 rfl (Nat.le_of_ble_eq_true rfl) (by omega) (by omega) (by omega) (c_X9_sheet (f1 := (h 147)) (by omega)  rfl  (fun t1_1_9 t10_2_9 c17_3_9 c30_4_9 c54_5_9 => ?_) (fun t1_1_9 t10_2_9 c17_3_9 c30_4_9 c54_5_9 => ?_) (fun t1_1_9 t10_2_9 c17_3_9 c30_4_9 c34_6_9 c54_7_9 => ?_) (fun t1_1_9 t10_2_9 c17_3_9 c30_4_9 c34_6_9 c54_7_9 => ?_) (fun t1_1_9 t10_2_9 c17_3_9 c30_4_9 c34_6_9 => ?_) (fun t1_1_9 t10_2_9 c17_3_9 c23_8_9 c30_9_9 c54_10_9 => ?_) (fun t1_1_9 t10_2_9 c17_3_9 c23_8_9 c30_9_9 c54_10_9 => ?_) (fun t1_1_9 t10_2_9 c17_3_9 c23_8_9 c30_9_9 c34_11_9 c54_12_9 => ?_) (fun t1_1_9 t10_2_9 c17_3_9 c23_8_9 c30_9_9 c34_11_9 c54_12_9 => ?_) (fun t1_1_9 t10_2_9 c17_3_9 c23_8_9 c30_9_9 c34_11_9 => ?_) (fun t1_1_9 t10_2_9 c17_3_9 c23_8_9 => ?_) (fun t1_1_9 t10_2_9 => ?_) (fun t1_1_9 => ?_))
      · have t1_1_9 : 0 ≤ ((s0 : Nat) : Int) ∧ ((s0 : Nat) : Int) ≤ 3 := t1_1_9
        have t10_2_9 : (-1) ≤ a2 ∧ a2 ≤ 1 := t10_2_9
        have c17_3_9 : a2 < 0 := c17_3_9
        have c30_4_9 : a2 < 0 := c30_4_9
        have c54_5_9 : 0 ≤ a2 := c54_5_9
        show Aj γ mL_law d mc ms Post 1254 [(0, vK 0), (1, vA 0), (2, vA 123), (3, vI ((i : Nat) : Int))] [vI a3, vI (-1000000014)] (mk (upR (up2 (up2 h 145 s0 a2) 146 s0 a3) 147 (segF 0 (Int.toNat (24 * ((s0 : Nat) : Int))) 24 (h 147))) τ)
        refine a_icmp_eq (tgt := 1668) dL_law_1254 (by decide) (fun c1254_11 => ?_) (fun c1254_11 => ?_)
        · exfalso
          omega
        · refine a_iconst dL_law_1257 ⟨by decide, by decide⟩ ?_
          exact a_zret dL_law_1258 rfl (by first | exact Or.inl rfl | exact Or.inr rfl | omega) (by exfalso; omega)
      · have t1_1_9 : 0 ≤ ((s0 : Nat) : Int) ∧ ((s0 : Nat) : Int) ≤ 3 := t1_1_9
        have t10_2_9 : (-1) ≤ a2 ∧ a2 ≤ 1 := t10_2_9
        have c17_3_9 : a2 < 0 := c17_3_9
        have c30_4_9 : a2 < 0 := c30_4_9
        have c54_5_9 : ¬ 0 ≤ a2 := c54_5_9
        show Aj γ mL_law d mc ms Post 1254 [(0, vK 0), (1, vA 0), (2, vA 123), (3, vI ((i : Nat) : Int))] [vI 0, vI (-1000000014)] (mk (upR (up2 (up2 h 145 s0 a2) 146 s0 0) 147 (segF 0 (Int.toNat (24 * ((s0 : Nat) : Int))) 24 (h 147))) τ)
        refine a_icmp_eq (tgt := 1668) dL_law_1254 (by decide) (fun c => absurd c (by decide)) (fun _ => ?_)
        refine a_iconst dL_law_1257 ⟨by decide, by decide⟩ ?_
        exact a_zret dL_law_1258 rfl (by first | exact Or.inl rfl | exact Or.inr rfl | omega) (by exfalso; omega)
      · exfalso
        omega
      · exfalso
        omega
      · exfalso
        omega
      · exfalso
        omega
      · exfalso
        omega
      · exfalso
        omega
      · exfalso
        omega
      · have t1_1_9 : 0 ≤ ((s0 : Nat) : Int) ∧ ((s0 : Nat) : Int) ≤ 3 := t1_1_9
        have t10_2_9 : (-1) ≤ a2 ∧ a2 ≤ 1 := t10_2_9
        have c17_3_9 : ¬ a2 < 0 := c17_3_9
        have c23_8_9 : a3 ≤ 24 := c23_8_9
        have c30_9_9 : ¬ a2 < 0 := c30_9_9
        have c34_11_9 : ¬ 0 ≤ a3 := c34_11_9
        show Aj γ mL_law d mc ms Post 1254 [(0, vK 0), (1, vA 0), (2, vA 123), (3, vI ((i : Nat) : Int))] [vI (-1000000014), vI (-1000000014)] (mk h τ)
        refine a_icmp_eq (tgt := 1668) dL_law_1254 (by decide) (fun _ => ?_) (fun c => absurd c (by decide))
        exact kE h N J (IV_up (by omega) hI)
      · exfalso
        omega
      · exfalso
        omega
      · exfalso
        omega
    · have t1_1_1 : 0 ≤ ((s0 : Nat) : Int) ∧ ((s0 : Nat) : Int) ≤ 3 := t1_1_1
      have t10_2_1 : (-1) ≤ a2 ∧ a2 ≤ 1 := t10_2_1
      have c21_3_1 : ¬ a2 = (-1) := c21_3_1
      have c40_4_1 : ¬ a3 ≤ 24 := c40_4_1
      show Aj γ mL_law d mc ms Post 1235 [(0, vK 0), (1, vA 0), (2, vA 123), (3, vI ((i : Nat) : Int))] [vI (-1000000001)] (mk h τ)
      refine a_aload_n (j := 2) dL_law_1235 rfl rfl (Nat.le_of_ble_eq_true rfl) ?_
      refine a_aload_n (j := 0) dL_law_1236 rfl rfl (Nat.le_of_ble_eq_true rfl) ?_
      refine a_iload_n (j := 3) dL_law_1237 rfl rfl ?_
      refine a_iconst dL_law_1238 ⟨by decide, by decide⟩ ?_
      refine a_iadd (z := (((i : Nat) : Int) + 1)) dL_law_1239 (w_ok (by omega) (by omega)) ?_
      refine a_sld (i + 1) dL_law_1240 (by omega) (by omega) ?_
      rw [ha1]
      refine a_aload_n (j := 0) dL_law_1241 rfl rfl (Nat.le_of_ble_eq_true rfl) ?_
      refine a_iload_n (j := 3) dL_law_1242 rfl rfl ?_
      refine a_iconst dL_law_1243 ⟨by decide, by decide⟩ ?_
      refine a_iadd (z := (((i : Nat) : Int) + 2)) dL_law_1244 (w_ok (by omega) (by omega)) ?_
      refine a_sld (i + 2) dL_law_1245 (by omega) (by omega) ?_
      rw [ha2]
      refine a_aload_n (j := 0) dL_law_1246 rfl rfl (Nat.le_of_ble_eq_true rfl) ?_
      refine a_iload_n (j := 3) dL_law_1247 rfl rfl ?_
      refine a_iconst dL_law_1248 ⟨by decide, by decide⟩ ?_
      refine a_iadd (z := (((i : Nat) : Int) + 3)) dL_law_1249 (w_ok (by omega) (by omega)) ?_
      refine a_sld (i + 3) dL_law_1250 (by omega) (by omega) ?_
      rw [ha3]
      refine b_callV (d' := d - 1) (mc' := 0) (ms' := 0) (mc1 := mc) (ms1 := ms) (st := [vI (-1000000001)]) (b := 123) [vI ((s0 : Nat) : Int), vI a2, vI a3] dL_law_1251 mwX9_sheet lkL_154 (by decide) rfl rc_X9 rfl (Nat.le_of_ble_eq_true rfl) (by omega) (by omega) (by omega) (c_X9_sheet (f1 := (h 147)) (by omega)  rfl  (fun t1_1_12 t10_2_12 c17_3_12 c30_4_12 c54_5_12 => ?_) (fun t1_1_12 t10_2_12 c17_3_12 c30_4_12 c54_5_12 => ?_) (fun t1_1_12 t10_2_12 c17_3_12 c30_4_12 c34_6_12 c54_7_12 => ?_) (fun t1_1_12 t10_2_12 c17_3_12 c30_4_12 c34_6_12 c54_7_12 => ?_) (fun t1_1_12 t10_2_12 c17_3_12 c30_4_12 c34_6_12 => ?_) (fun t1_1_12 t10_2_12 c17_3_12 c23_8_12 c30_9_12 c54_10_12 => ?_) (fun t1_1_12 t10_2_12 c17_3_12 c23_8_12 c30_9_12 c54_10_12 => ?_) (fun t1_1_12 t10_2_12 c17_3_12 c23_8_12 c30_9_12 c34_11_12 c54_12_12 => ?_) (fun t1_1_12 t10_2_12 c17_3_12 c23_8_12 c30_9_12 c34_11_12 c54_12_12 => ?_) (fun t1_1_12 t10_2_12 c17_3_12 c23_8_12 c30_9_12 c34_11_12 => ?_) (fun t1_1_12 t10_2_12 c17_3_12 c23_8_12 => ?_) (fun t1_1_12 t10_2_12 => ?_) (fun t1_1_12 => ?_))
      · have t1_1_12 : 0 ≤ ((s0 : Nat) : Int) ∧ ((s0 : Nat) : Int) ≤ 3 := t1_1_12
        have t10_2_12 : (-1) ≤ a2 ∧ a2 ≤ 1 := t10_2_12
        have c17_3_12 : a2 < 0 := c17_3_12
        have c30_4_12 : a2 < 0 := c30_4_12
        have c54_5_12 : 0 ≤ a2 := c54_5_12
        show Aj γ mL_law d mc ms Post 1254 [(0, vK 0), (1, vA 0), (2, vA 123), (3, vI ((i : Nat) : Int))] [vI a3, vI (-1000000001)] (mk (upR (up2 (up2 h 145 s0 a2) 146 s0 a3) 147 (segF 0 (Int.toNat (24 * ((s0 : Nat) : Int))) 24 (h 147))) τ)
        refine a_icmp_eq (tgt := 1668) dL_law_1254 (by decide) (fun c1254_14 => ?_) (fun c1254_14 => ?_)
        · exfalso
          omega
        · refine a_iconst dL_law_1257 ⟨by decide, by decide⟩ ?_
          exact a_zret dL_law_1258 rfl (by first | exact Or.inl rfl | exact Or.inr rfl | omega) (by exfalso; omega)
      · have t1_1_12 : 0 ≤ ((s0 : Nat) : Int) ∧ ((s0 : Nat) : Int) ≤ 3 := t1_1_12
        have t10_2_12 : (-1) ≤ a2 ∧ a2 ≤ 1 := t10_2_12
        have c17_3_12 : a2 < 0 := c17_3_12
        have c30_4_12 : a2 < 0 := c30_4_12
        have c54_5_12 : ¬ 0 ≤ a2 := c54_5_12
        show Aj γ mL_law d mc ms Post 1254 [(0, vK 0), (1, vA 0), (2, vA 123), (3, vI ((i : Nat) : Int))] [vI 0, vI (-1000000001)] (mk (upR (up2 (up2 h 145 s0 a2) 146 s0 0) 147 (segF 0 (Int.toNat (24 * ((s0 : Nat) : Int))) 24 (h 147))) τ)
        refine a_icmp_eq (tgt := 1668) dL_law_1254 (by decide) (fun c => absurd c (by decide)) (fun _ => ?_)
        refine a_iconst dL_law_1257 ⟨by decide, by decide⟩ ?_
        exact a_zret dL_law_1258 rfl (by first | exact Or.inl rfl | exact Or.inr rfl | omega) (by exfalso; omega)
      · exfalso
        omega
      · exfalso
        omega
      · exfalso
        omega
      · exfalso
        omega
      · exfalso
        omega
      · exfalso
        omega
      · exfalso
        omega
      · exfalso
        omega
      · have t1_1_12 : 0 ≤ ((s0 : Nat) : Int) ∧ ((s0 : Nat) : Int) ≤ 3 := t1_1_12
        have t10_2_12 : (-1) ≤ a2 ∧ a2 ≤ 1 := t10_2_12
        have c17_3_12 : ¬ a2 < 0 := c17_3_12
        have c23_8_12 : ¬ a3 ≤ 24 := c23_8_12
        show Aj γ mL_law d mc ms Post 1254 [(0, vK 0), (1, vA 0), (2, vA 123), (3, vI ((i : Nat) : Int))] [vI (-1000000001), vI (-1000000001)] (mk h τ)
        refine a_icmp_eq (tgt := 1668) dL_law_1254 (by decide) (fun _ => ?_) (fun c => absurd c (by decide))
        exact kE h N J (IV_up (by omega) hI)
      · exfalso
        omega
      · exfalso
        omega
    · have t1_1_1 : 0 ≤ ((s0 : Nat) : Int) ∧ ((s0 : Nat) : Int) ≤ 3 := t1_1_1
      have t10_2_1 : (-1) ≤ a2 ∧ a2 ≤ 1 := t10_2_1
      have c21_3_1 : a2 = (-1) := c21_3_1
      show Aj γ mL_law d mc ms Post 1235 [(0, vK 0), (1, vA 0), (2, vA 123), (3, vI ((i : Nat) : Int))] [vI 0] (mk (upR (up2 (up2 h (90 + 2 * s0) 0 (-1)) (90 + 2 * s0) 1 0) ((90 + 2 * s0) + 1) (fillR 0 24 (h ((90 + 2 * s0) + 1)))) τ)
      refine a_aload_n (j := 2) dL_law_1235 rfl rfl (Nat.le_of_ble_eq_true rfl) ?_
      refine a_aload_n (j := 0) dL_law_1236 rfl rfl (Nat.le_of_ble_eq_true rfl) ?_
      refine a_iload_n (j := 3) dL_law_1237 rfl rfl ?_
      refine a_iconst dL_law_1238 ⟨by decide, by decide⟩ ?_
      refine a_iadd (z := (((i : Nat) : Int) + 1)) dL_law_1239 (w_ok (by omega) (by omega)) ?_
      refine a_sld (i + 1) dL_law_1240 (by omega) (by omega) ?_
      rw [ha1]
      refine a_aload_n (j := 0) dL_law_1241 rfl rfl (Nat.le_of_ble_eq_true rfl) ?_
      refine a_iload_n (j := 3) dL_law_1242 rfl rfl ?_
      refine a_iconst dL_law_1243 ⟨by decide, by decide⟩ ?_
      refine a_iadd (z := (((i : Nat) : Int) + 2)) dL_law_1244 (w_ok (by omega) (by omega)) ?_
      refine a_sld (i + 2) dL_law_1245 (by omega) (by omega) ?_
      rw [ha2]
      refine a_aload_n (j := 0) dL_law_1246 rfl rfl (Nat.le_of_ble_eq_true rfl) ?_
      refine a_iload_n (j := 3) dL_law_1247 rfl rfl ?_
      refine a_iconst dL_law_1248 ⟨by decide, by decide⟩ ?_
      refine a_iadd (z := (((i : Nat) : Int) + 3)) dL_law_1249 (w_ok (by omega) (by omega)) ?_
      refine a_sld (i + 3) dL_law_1250 (by omega) (by omega) ?_
      rw [ha3]
      refine b_callV (d' := d - 1) (mc' := 0) (ms' := 0) (mc1 := mc) (ms1 := ms) (st := [vI 0]) (b := 123) [vI ((s0 : Nat) : Int), vI a2, vI a3] dL_law_1251 mwX9_sheet lkL_154 (by decide) rfl rc_X9 rfl (Nat.le_of_ble_eq_true rfl) (by omega) (by omega) (by omega) (c_X9_sheet (f1 := (h 147)) (by omega)  ((upR_rn (by omega)).trans ((up2_row (by omega)).trans ((up2_row (by omega)).trans rfl)))  (fun t1_1_15 t10_2_15 c17_3_15 c30_4_15 c54_5_15 => ?_) (fun t1_1_15 t10_2_15 c17_3_15 c30_4_15 c54_5_15 => ?_) (fun t1_1_15 t10_2_15 c17_3_15 c30_4_15 c34_6_15 c54_7_15 => ?_) (fun t1_1_15 t10_2_15 c17_3_15 c30_4_15 c34_6_15 c54_7_15 => ?_) (fun t1_1_15 t10_2_15 c17_3_15 c30_4_15 c34_6_15 => ?_) (fun t1_1_15 t10_2_15 c17_3_15 c23_8_15 c30_9_15 c54_10_15 => ?_) (fun t1_1_15 t10_2_15 c17_3_15 c23_8_15 c30_9_15 c54_10_15 => ?_) (fun t1_1_15 t10_2_15 c17_3_15 c23_8_15 c30_9_15 c34_11_15 c54_12_15 => ?_) (fun t1_1_15 t10_2_15 c17_3_15 c23_8_15 c30_9_15 c34_11_15 c54_12_15 => ?_) (fun t1_1_15 t10_2_15 c17_3_15 c23_8_15 c30_9_15 c34_11_15 => ?_) (fun t1_1_15 t10_2_15 c17_3_15 c23_8_15 => ?_) (fun t1_1_15 t10_2_15 => ?_) (fun t1_1_15 => ?_))
      · have t1_1_15 : 0 ≤ ((s0 : Nat) : Int) ∧ ((s0 : Nat) : Int) ≤ 3 := t1_1_15
        have t10_2_15 : (-1) ≤ a2 ∧ a2 ≤ 1 := t10_2_15
        have c17_3_15 : a2 < 0 := c17_3_15
        have c30_4_15 : a2 < 0 := c30_4_15
        have c54_5_15 : 0 ≤ a2 := c54_5_15
        show Aj γ mL_law d mc ms Post 1254 [(0, vK 0), (1, vA 0), (2, vA 123), (3, vI ((i : Nat) : Int))] [vI a3, vI 0] (mk (upR (up2 (up2 (upR (up2 (up2 h (90 + 2 * s0) 0 (-1)) (90 + 2 * s0) 1 0) ((90 + 2 * s0) + 1) (fillR 0 24 (h ((90 + 2 * s0) + 1)))) 145 s0 a2) 146 s0 a3) 147 (segF 0 (Int.toNat (24 * ((s0 : Nat) : Int))) 24 (h 147))) τ)
        refine a_icmp_eq (tgt := 1668) dL_law_1254 (by decide) (fun c1254_17 => ?_) (fun c1254_17 => ?_)
        · generalize hHH : (upR (up2 (up2 (upR (up2 (up2 h (90 + 2 * s0) 0 (-1)) (90 + 2 * s0) 1 0) ((90 + 2 * s0) + 1) (fillR 0 24 (h ((90 + 2 * s0) + 1)))) 145 s0 a2) 146 s0 a3) 147 (segF 0 (Int.toNat (24 * ((s0 : Nat) : Int))) 24 (h 147))) = H
          have gR : ∀ c, (c < 90 ∨ 98 ≤ c) → c ≠ 145 → c ≠ 146 → c ≠ 147 → H c = h c := fun c q0_ q1_ q2_ q3_ => by rw [← hHH]; exact ((upR_rn (by omega)).trans ((up2_row (by omega)).trans ((up2_row (by omega)).trans ((upR_rn (by omega)).trans ((up2_row (by omega)).trans ((up2_row (by omega)).trans rfl))))))
          have e0_ : H (90 + 2 * s0) 0 = (-1) := by rw [← hHH]; exact ((upR_ne (by omega)).trans ((up2_ne (by omega)).trans ((up2_ne (by omega)).trans ((upR_ne (by omega)).trans ((up2_ne (by omega)).trans (up2_hit (by omega) (by omega)))))))
          have e1_ : H (90 + 2 * s0) 1 = 0 := by rw [← hHH]; exact ((upR_ne (by omega)).trans ((up2_ne (by omega)).trans ((up2_ne (by omega)).trans ((upR_ne (by omega)).trans (up2_hit (by omega) (by omega))))))
          have e3_ : ∀ c, 90 ≤ c → c < 98 → c ≠ 90 + 2 * s0 → c ≠ 90 + 2 * s0 + 1 → H c = h c := fun c q0_ q1_ q2_ q3_ => by rw [← hHH]; exact ((upR_rn (by omega)).trans ((up2_row (by omega)).trans ((up2_row (by omega)).trans ((upR_rn (by omega)).trans ((up2_row (by omega)).trans ((up2_row (by omega)).trans rfl))))))
          have e5_ : H 145 s0 = a2 := by rw [← hHH]; exact ((upR_ne (by omega)).trans ((up2_ne (by omega)).trans (up2_hit (by omega) (by omega))))
          have e5o : ∀ k : Nat, k ≠ s0 → H 145 k = h 145 k := fun k q0_ => by rw [← hHH]; exact ((upR_ne (by omega)).trans ((up2_ne (by omega)).trans ((up2_ne (by omega)).trans ((upR_ne (by omega)).trans ((up2_ne (by omega)).trans ((up2_ne (by omega)).trans rfl))))))
          have e6_ : H 146 s0 = a3 := by rw [← hHH]; exact ((upR_ne (by omega)).trans (up2_hit (by omega) (by omega)))
          have e6o : ∀ k : Nat, k ≠ s0 → H 146 k = h 146 k := fun k q0_ => by rw [← hHH]; exact ((upR_ne (by omega)).trans ((up2_ne (by omega)).trans ((up2_ne (by omega)).trans ((upR_ne (by omega)).trans ((up2_ne (by omega)).trans ((up2_ne (by omega)).trans rfl))))))
          have e2_ : ∀ k : Nat, k < 24 → H ((90 + 2 * s0) + 1) k = 0 := fun k hk => by rw [show H ((90 + 2 * s0) + 1) k = ((fillR 0 24 (h ((90 + 2 * s0) + 1))) k) by rw [← hHH]; exact ((upR_ne (by omega)).trans ((up2_ne (by omega)).trans ((up2_ne (by omega)).trans (upR_hit (by omega)))))]; unfold fillR; rw [if_pos hk]
          have e7g : ∀ k : Nat, H 147 k = ((segF 0 (Int.toNat (24 * ((s0 : Nat) : Int))) 24 (h 147)) k) := fun k => by rw [← hHH]; exact (upR_hit (by omega))
          have e7_ : ∀ k : Nat, k < 24 → H 147 (24 * s0 + k) = 0 := fun k hk => by rw [e7g]; unfold segF; rw [if_pos (by omega)]
          have e8_ : ∀ k : Nat, k < 24 * s0 ∨ 24 * s0 + 24 ≤ k → H 147 k = h 147 k := fun k hk => by rw [e7g]; unfold segF; rw [if_neg (by omega)]
          have t1_ : H 84 1 = h 84 1 := by rw [← hHH]; exact ((upR_ne (by omega)).trans ((up2_ne (by omega)).trans ((up2_ne (by omega)).trans ((upR_ne (by omega)).trans ((up2_ne (by omega)).trans ((up2_ne (by omega)).trans rfl))))))
          have t3_ : H 123 17 = h 123 17 := by rw [← hHH]; exact ((upR_ne (by omega)).trans ((up2_ne (by omega)).trans ((up2_ne (by omega)).trans ((upR_ne (by omega)).trans ((up2_ne (by omega)).trans ((up2_ne (by omega)).trans rfl))))))
          have w0_ : H 0 12 = h 0 12 := by rw [← hHH]; exact ((upR_ne (by omega)).trans ((up2_ne (by omega)).trans ((up2_ne (by omega)).trans ((upR_ne (by omega)).trans ((up2_ne (by omega)).trans ((up2_ne (by omega)).trans rfl))))))
          have w1_ : H 123 44 = h 123 44 := by rw [← hHH]; exact ((upR_ne (by omega)).trans ((up2_ne (by omega)).trans ((up2_ne (by omega)).trans ((upR_ne (by omega)).trans ((up2_ne (by omega)).trans ((up2_ne (by omega)).trans rfl))))))
          have g0 : ∀ k : Nat, k ≠ 12 → H 0 k = h 0 k := fun k q0_ => by rw [← hHH]; exact ((upR_ne (by omega)).trans ((up2_ne (by omega)).trans ((up2_ne (by omega)).trans ((upR_ne (by omega)).trans ((up2_ne (by omega)).trans ((up2_ne (by omega)).trans rfl))))))
          have gF : ∀ c, ((1 ≤ c ∧ c < 84) ∨ (124 ≤ c ∧ c < 137)) → H c = h c := fun c q0_ => by rw [← hHH]; exact ((upR_rn (by omega)).trans ((up2_row (by omega)).trans ((up2_row (by omega)).trans ((upR_rn (by omega)).trans ((up2_row (by omega)).trans ((up2_row (by omega)).trans rfl))))))
          have k3_ : H 123 3 = h 123 3 := by rw [← hHH]; exact ((upR_ne (by omega)).trans ((up2_ne (by omega)).trans ((up2_ne (by omega)).trans ((upR_ne (by omega)).trans ((up2_ne (by omega)).trans ((up2_ne (by omega)).trans rfl))))))
          have k4_ : H 123 4 = h 123 4 := by rw [← hHH]; exact ((upR_ne (by omega)).trans ((up2_ne (by omega)).trans ((up2_ne (by omega)).trans ((upR_ne (by omega)).trans ((up2_ne (by omega)).trans ((up2_ne (by omega)).trans rfl))))))
          have k9_ : H 123 9 = h 123 9 := by rw [← hHH]; exact ((upR_ne (by omega)).trans ((up2_ne (by omega)).trans ((up2_ne (by omega)).trans ((upR_ne (by omega)).trans ((up2_ne (by omega)).trans ((up2_ne (by omega)).trans rfl))))))
          have g3 : ∀ k, k = 3 ∨ k = 4 ∨ k = 9 → H 123 k = h 123 k := fun k hk => by rcases hk with rfl | rfl | rfl; exact k3_; exact k4_; exact k9_
          exact kE H N J (IV_up (by omega) (IV_o hI gF g0 g3 ⟨TPE_fr t1_ (gR 85 (by omega) (by decide) (by decide) (by decide)) t3_ (gR 137 (by omega) (by decide) (by decide) (by decide)) hO.1, SHE_b (so := (-1)) (sz := 0) (by omega) (by omega) (by omega) e0_ e1_ e2_ e3_ (by rw [e5_] <;> omega) e5o (by rw [e6_] <;> omega) e6o e7_ e8_ hO.2.1, SLE_fr (fun c h1 h2 => gR c (by omega) (by omega) (by omega) (by omega)) (gR 148 (by omega) (by decide) (by decide) (by decide)) (gR 149 (by omega) (by decide) (by decide) (by decide)) (gR 150 (by omega) (by decide) (by decide) (by decide)) (gR 151 (by omega) (by decide) (by decide) (by decide)) hO.2.2.1, WTE_fr w0_ w1_ (gR 89 (by omega) (by decide) (by decide) (by decide)) (gR 153 (by omega) (by decide) (by decide) (by decide)) hO.2.2.2.1, CNE_fr (gR 138 (by omega) (by decide) (by decide) (by decide)) (gR 139 (by omega) (by decide) (by decide) (by decide)) hO.2.2.2.2⟩))
        · refine a_iconst dL_law_1257 ⟨by decide, by decide⟩ ?_
          exact a_zret dL_law_1258 rfl (by first | exact Or.inl rfl | exact Or.inr rfl | omega) (by exfalso; omega)
      · have t1_1_15 : 0 ≤ ((s0 : Nat) : Int) ∧ ((s0 : Nat) : Int) ≤ 3 := t1_1_15
        have t10_2_15 : (-1) ≤ a2 ∧ a2 ≤ 1 := t10_2_15
        have c17_3_15 : a2 < 0 := c17_3_15
        have c30_4_15 : a2 < 0 := c30_4_15
        have c54_5_15 : ¬ 0 ≤ a2 := c54_5_15
        show Aj γ mL_law d mc ms Post 1254 [(0, vK 0), (1, vA 0), (2, vA 123), (3, vI ((i : Nat) : Int))] [vI 0, vI 0] (mk (upR (up2 (up2 (upR (up2 (up2 h (90 + 2 * s0) 0 (-1)) (90 + 2 * s0) 1 0) ((90 + 2 * s0) + 1) (fillR 0 24 (h ((90 + 2 * s0) + 1)))) 145 s0 a2) 146 s0 0) 147 (segF 0 (Int.toNat (24 * ((s0 : Nat) : Int))) 24 (h 147))) τ)
        refine a_icmp_eq (tgt := 1668) dL_law_1254 (by decide) (fun _ => ?_) (fun c => absurd c (by decide))
        generalize hHH : (upR (up2 (up2 (upR (up2 (up2 h (90 + 2 * s0) 0 (-1)) (90 + 2 * s0) 1 0) ((90 + 2 * s0) + 1) (fillR 0 24 (h ((90 + 2 * s0) + 1)))) 145 s0 a2) 146 s0 0) 147 (segF 0 (Int.toNat (24 * ((s0 : Nat) : Int))) 24 (h 147))) = H
        have gR : ∀ c, (c < 90 ∨ 98 ≤ c) → c ≠ 145 → c ≠ 146 → c ≠ 147 → H c = h c := fun c q0_ q1_ q2_ q3_ => by rw [← hHH]; exact ((upR_rn (by omega)).trans ((up2_row (by omega)).trans ((up2_row (by omega)).trans ((upR_rn (by omega)).trans ((up2_row (by omega)).trans ((up2_row (by omega)).trans rfl))))))
        have e0_ : H (90 + 2 * s0) 0 = (-1) := by rw [← hHH]; exact ((upR_ne (by omega)).trans ((up2_ne (by omega)).trans ((up2_ne (by omega)).trans ((upR_ne (by omega)).trans ((up2_ne (by omega)).trans (up2_hit (by omega) (by omega)))))))
        have e1_ : H (90 + 2 * s0) 1 = 0 := by rw [← hHH]; exact ((upR_ne (by omega)).trans ((up2_ne (by omega)).trans ((up2_ne (by omega)).trans ((upR_ne (by omega)).trans (up2_hit (by omega) (by omega))))))
        have e3_ : ∀ c, 90 ≤ c → c < 98 → c ≠ 90 + 2 * s0 → c ≠ 90 + 2 * s0 + 1 → H c = h c := fun c q0_ q1_ q2_ q3_ => by rw [← hHH]; exact ((upR_rn (by omega)).trans ((up2_row (by omega)).trans ((up2_row (by omega)).trans ((upR_rn (by omega)).trans ((up2_row (by omega)).trans ((up2_row (by omega)).trans rfl))))))
        have e5_ : H 145 s0 = a2 := by rw [← hHH]; exact ((upR_ne (by omega)).trans ((up2_ne (by omega)).trans (up2_hit (by omega) (by omega))))
        have e5o : ∀ k : Nat, k ≠ s0 → H 145 k = h 145 k := fun k q0_ => by rw [← hHH]; exact ((upR_ne (by omega)).trans ((up2_ne (by omega)).trans ((up2_ne (by omega)).trans ((upR_ne (by omega)).trans ((up2_ne (by omega)).trans ((up2_ne (by omega)).trans rfl))))))
        have e6_ : H 146 s0 = 0 := by rw [← hHH]; exact ((upR_ne (by omega)).trans (up2_hit (by omega) (by omega)))
        have e6o : ∀ k : Nat, k ≠ s0 → H 146 k = h 146 k := fun k q0_ => by rw [← hHH]; exact ((upR_ne (by omega)).trans ((up2_ne (by omega)).trans ((up2_ne (by omega)).trans ((upR_ne (by omega)).trans ((up2_ne (by omega)).trans ((up2_ne (by omega)).trans rfl))))))
        have e2_ : ∀ k : Nat, k < 24 → H ((90 + 2 * s0) + 1) k = 0 := fun k hk => by rw [show H ((90 + 2 * s0) + 1) k = ((fillR 0 24 (h ((90 + 2 * s0) + 1))) k) by rw [← hHH]; exact ((upR_ne (by omega)).trans ((up2_ne (by omega)).trans ((up2_ne (by omega)).trans (upR_hit (by omega)))))]; unfold fillR; rw [if_pos hk]
        have e7g : ∀ k : Nat, H 147 k = ((segF 0 (Int.toNat (24 * ((s0 : Nat) : Int))) 24 (h 147)) k) := fun k => by rw [← hHH]; exact (upR_hit (by omega))
        have e7_ : ∀ k : Nat, k < 24 → H 147 (24 * s0 + k) = 0 := fun k hk => by rw [e7g]; unfold segF; rw [if_pos (by omega)]
        have e8_ : ∀ k : Nat, k < 24 * s0 ∨ 24 * s0 + 24 ≤ k → H 147 k = h 147 k := fun k hk => by rw [e7g]; unfold segF; rw [if_neg (by omega)]
        have t1_ : H 84 1 = h 84 1 := by rw [← hHH]; exact ((upR_ne (by omega)).trans ((up2_ne (by omega)).trans ((up2_ne (by omega)).trans ((upR_ne (by omega)).trans ((up2_ne (by omega)).trans ((up2_ne (by omega)).trans rfl))))))
        have t3_ : H 123 17 = h 123 17 := by rw [← hHH]; exact ((upR_ne (by omega)).trans ((up2_ne (by omega)).trans ((up2_ne (by omega)).trans ((upR_ne (by omega)).trans ((up2_ne (by omega)).trans ((up2_ne (by omega)).trans rfl))))))
        have w0_ : H 0 12 = h 0 12 := by rw [← hHH]; exact ((upR_ne (by omega)).trans ((up2_ne (by omega)).trans ((up2_ne (by omega)).trans ((upR_ne (by omega)).trans ((up2_ne (by omega)).trans ((up2_ne (by omega)).trans rfl))))))
        have w1_ : H 123 44 = h 123 44 := by rw [← hHH]; exact ((upR_ne (by omega)).trans ((up2_ne (by omega)).trans ((up2_ne (by omega)).trans ((upR_ne (by omega)).trans ((up2_ne (by omega)).trans ((up2_ne (by omega)).trans rfl))))))
        have g0 : ∀ k : Nat, k ≠ 12 → H 0 k = h 0 k := fun k q0_ => by rw [← hHH]; exact ((upR_ne (by omega)).trans ((up2_ne (by omega)).trans ((up2_ne (by omega)).trans ((upR_ne (by omega)).trans ((up2_ne (by omega)).trans ((up2_ne (by omega)).trans rfl))))))
        have gF : ∀ c, ((1 ≤ c ∧ c < 84) ∨ (124 ≤ c ∧ c < 137)) → H c = h c := fun c q0_ => by rw [← hHH]; exact ((upR_rn (by omega)).trans ((up2_row (by omega)).trans ((up2_row (by omega)).trans ((upR_rn (by omega)).trans ((up2_row (by omega)).trans ((up2_row (by omega)).trans rfl))))))
        have k3_ : H 123 3 = h 123 3 := by rw [← hHH]; exact ((upR_ne (by omega)).trans ((up2_ne (by omega)).trans ((up2_ne (by omega)).trans ((upR_ne (by omega)).trans ((up2_ne (by omega)).trans ((up2_ne (by omega)).trans rfl))))))
        have k4_ : H 123 4 = h 123 4 := by rw [← hHH]; exact ((upR_ne (by omega)).trans ((up2_ne (by omega)).trans ((up2_ne (by omega)).trans ((upR_ne (by omega)).trans ((up2_ne (by omega)).trans ((up2_ne (by omega)).trans rfl))))))
        have k9_ : H 123 9 = h 123 9 := by rw [← hHH]; exact ((upR_ne (by omega)).trans ((up2_ne (by omega)).trans ((up2_ne (by omega)).trans ((upR_ne (by omega)).trans ((up2_ne (by omega)).trans ((up2_ne (by omega)).trans rfl))))))
        have g3 : ∀ k, k = 3 ∨ k = 4 ∨ k = 9 → H 123 k = h 123 k := fun k hk => by rcases hk with rfl | rfl | rfl; exact k3_; exact k4_; exact k9_
        exact kE H N J (IV_up (by omega) (IV_o hI gF g0 g3 ⟨TPE_fr t1_ (gR 85 (by omega) (by decide) (by decide) (by decide)) t3_ (gR 137 (by omega) (by decide) (by decide) (by decide)) hO.1, SHE_b (so := (-1)) (sz := 0) (by omega) (by omega) (by omega) e0_ e1_ e2_ e3_ (by rw [e5_] <;> omega) e5o (by rw [e6_] <;> omega) e6o e7_ e8_ hO.2.1, SLE_fr (fun c h1 h2 => gR c (by omega) (by omega) (by omega) (by omega)) (gR 148 (by omega) (by decide) (by decide) (by decide)) (gR 149 (by omega) (by decide) (by decide) (by decide)) (gR 150 (by omega) (by decide) (by decide) (by decide)) (gR 151 (by omega) (by decide) (by decide) (by decide)) hO.2.2.1, WTE_fr w0_ w1_ (gR 89 (by omega) (by decide) (by decide) (by decide)) (gR 153 (by omega) (by decide) (by decide) (by decide)) hO.2.2.2.1, CNE_fr (gR 138 (by omega) (by decide) (by decide) (by decide)) (gR 139 (by omega) (by decide) (by decide) (by decide)) hO.2.2.2.2⟩))
      · exfalso
        omega
      · exfalso
        omega
      · exfalso
        omega
      · exfalso
        omega
      · exfalso
        omega
      · have t1_1_15 : 0 ≤ ((s0 : Nat) : Int) ∧ ((s0 : Nat) : Int) ≤ 3 := t1_1_15
        have t10_2_15 : (-1) ≤ a2 ∧ a2 ≤ 1 := t10_2_15
        have c17_3_15 : ¬ a2 < 0 := c17_3_15
        have c23_8_15 : a3 ≤ 24 := c23_8_15
        have c30_9_15 : ¬ a2 < 0 := c30_9_15
        have c34_11_15 : 0 ≤ a3 := c34_11_15
        have c54_12_15 : 0 ≤ a2 := c54_12_15
        show Aj γ mL_law d mc ms Post 1254 [(0, vK 0), (1, vA 0), (2, vA 123), (3, vI ((i : Nat) : Int))] [vI a3, vI 0] (mk (upR (up2 (up2 (upR (up2 (up2 h (90 + 2 * s0) 0 (-1)) (90 + 2 * s0) 1 0) ((90 + 2 * s0) + 1) (fillR 0 24 (h ((90 + 2 * s0) + 1)))) 145 s0 a2) 146 s0 a3) 147 (segF 0 (Int.toNat (24 * ((s0 : Nat) : Int))) 24 (h 147))) τ)
        refine a_icmp_eq (tgt := 1668) dL_law_1254 (by decide) (fun c1254_18 => ?_) (fun c1254_18 => ?_)
        · generalize hHH : (upR (up2 (up2 (upR (up2 (up2 h (90 + 2 * s0) 0 (-1)) (90 + 2 * s0) 1 0) ((90 + 2 * s0) + 1) (fillR 0 24 (h ((90 + 2 * s0) + 1)))) 145 s0 a2) 146 s0 a3) 147 (segF 0 (Int.toNat (24 * ((s0 : Nat) : Int))) 24 (h 147))) = H
          have gR : ∀ c, (c < 90 ∨ 98 ≤ c) → c ≠ 145 → c ≠ 146 → c ≠ 147 → H c = h c := fun c q0_ q1_ q2_ q3_ => by rw [← hHH]; exact ((upR_rn (by omega)).trans ((up2_row (by omega)).trans ((up2_row (by omega)).trans ((upR_rn (by omega)).trans ((up2_row (by omega)).trans ((up2_row (by omega)).trans rfl))))))
          have e0_ : H (90 + 2 * s0) 0 = (-1) := by rw [← hHH]; exact ((upR_ne (by omega)).trans ((up2_ne (by omega)).trans ((up2_ne (by omega)).trans ((upR_ne (by omega)).trans ((up2_ne (by omega)).trans (up2_hit (by omega) (by omega)))))))
          have e1_ : H (90 + 2 * s0) 1 = 0 := by rw [← hHH]; exact ((upR_ne (by omega)).trans ((up2_ne (by omega)).trans ((up2_ne (by omega)).trans ((upR_ne (by omega)).trans (up2_hit (by omega) (by omega))))))
          have e3_ : ∀ c, 90 ≤ c → c < 98 → c ≠ 90 + 2 * s0 → c ≠ 90 + 2 * s0 + 1 → H c = h c := fun c q0_ q1_ q2_ q3_ => by rw [← hHH]; exact ((upR_rn (by omega)).trans ((up2_row (by omega)).trans ((up2_row (by omega)).trans ((upR_rn (by omega)).trans ((up2_row (by omega)).trans ((up2_row (by omega)).trans rfl))))))
          have e5_ : H 145 s0 = a2 := by rw [← hHH]; exact ((upR_ne (by omega)).trans ((up2_ne (by omega)).trans (up2_hit (by omega) (by omega))))
          have e5o : ∀ k : Nat, k ≠ s0 → H 145 k = h 145 k := fun k q0_ => by rw [← hHH]; exact ((upR_ne (by omega)).trans ((up2_ne (by omega)).trans ((up2_ne (by omega)).trans ((upR_ne (by omega)).trans ((up2_ne (by omega)).trans ((up2_ne (by omega)).trans rfl))))))
          have e6_ : H 146 s0 = a3 := by rw [← hHH]; exact ((upR_ne (by omega)).trans (up2_hit (by omega) (by omega)))
          have e6o : ∀ k : Nat, k ≠ s0 → H 146 k = h 146 k := fun k q0_ => by rw [← hHH]; exact ((upR_ne (by omega)).trans ((up2_ne (by omega)).trans ((up2_ne (by omega)).trans ((upR_ne (by omega)).trans ((up2_ne (by omega)).trans ((up2_ne (by omega)).trans rfl))))))
          have e2_ : ∀ k : Nat, k < 24 → H ((90 + 2 * s0) + 1) k = 0 := fun k hk => by rw [show H ((90 + 2 * s0) + 1) k = ((fillR 0 24 (h ((90 + 2 * s0) + 1))) k) by rw [← hHH]; exact ((upR_ne (by omega)).trans ((up2_ne (by omega)).trans ((up2_ne (by omega)).trans (upR_hit (by omega)))))]; unfold fillR; rw [if_pos hk]
          have e7g : ∀ k : Nat, H 147 k = ((segF 0 (Int.toNat (24 * ((s0 : Nat) : Int))) 24 (h 147)) k) := fun k => by rw [← hHH]; exact (upR_hit (by omega))
          have e7_ : ∀ k : Nat, k < 24 → H 147 (24 * s0 + k) = 0 := fun k hk => by rw [e7g]; unfold segF; rw [if_pos (by omega)]
          have e8_ : ∀ k : Nat, k < 24 * s0 ∨ 24 * s0 + 24 ≤ k → H 147 k = h 147 k := fun k hk => by rw [e7g]; unfold segF; rw [if_neg (by omega)]
          have t1_ : H 84 1 = h 84 1 := by rw [← hHH]; exact ((upR_ne (by omega)).trans ((up2_ne (by omega)).trans ((up2_ne (by omega)).trans ((upR_ne (by omega)).trans ((up2_ne (by omega)).trans ((up2_ne (by omega)).trans rfl))))))
          have t3_ : H 123 17 = h 123 17 := by rw [← hHH]; exact ((upR_ne (by omega)).trans ((up2_ne (by omega)).trans ((up2_ne (by omega)).trans ((upR_ne (by omega)).trans ((up2_ne (by omega)).trans ((up2_ne (by omega)).trans rfl))))))
          have w0_ : H 0 12 = h 0 12 := by rw [← hHH]; exact ((upR_ne (by omega)).trans ((up2_ne (by omega)).trans ((up2_ne (by omega)).trans ((upR_ne (by omega)).trans ((up2_ne (by omega)).trans ((up2_ne (by omega)).trans rfl))))))
          have w1_ : H 123 44 = h 123 44 := by rw [← hHH]; exact ((upR_ne (by omega)).trans ((up2_ne (by omega)).trans ((up2_ne (by omega)).trans ((upR_ne (by omega)).trans ((up2_ne (by omega)).trans ((up2_ne (by omega)).trans rfl))))))
          have g0 : ∀ k : Nat, k ≠ 12 → H 0 k = h 0 k := fun k q0_ => by rw [← hHH]; exact ((upR_ne (by omega)).trans ((up2_ne (by omega)).trans ((up2_ne (by omega)).trans ((upR_ne (by omega)).trans ((up2_ne (by omega)).trans ((up2_ne (by omega)).trans rfl))))))
          have gF : ∀ c, ((1 ≤ c ∧ c < 84) ∨ (124 ≤ c ∧ c < 137)) → H c = h c := fun c q0_ => by rw [← hHH]; exact ((upR_rn (by omega)).trans ((up2_row (by omega)).trans ((up2_row (by omega)).trans ((upR_rn (by omega)).trans ((up2_row (by omega)).trans ((up2_row (by omega)).trans rfl))))))
          have k3_ : H 123 3 = h 123 3 := by rw [← hHH]; exact ((upR_ne (by omega)).trans ((up2_ne (by omega)).trans ((up2_ne (by omega)).trans ((upR_ne (by omega)).trans ((up2_ne (by omega)).trans ((up2_ne (by omega)).trans rfl))))))
          have k4_ : H 123 4 = h 123 4 := by rw [← hHH]; exact ((upR_ne (by omega)).trans ((up2_ne (by omega)).trans ((up2_ne (by omega)).trans ((upR_ne (by omega)).trans ((up2_ne (by omega)).trans ((up2_ne (by omega)).trans rfl))))))
          have k9_ : H 123 9 = h 123 9 := by rw [← hHH]; exact ((upR_ne (by omega)).trans ((up2_ne (by omega)).trans ((up2_ne (by omega)).trans ((upR_ne (by omega)).trans ((up2_ne (by omega)).trans ((up2_ne (by omega)).trans rfl))))))
          have g3 : ∀ k, k = 3 ∨ k = 4 ∨ k = 9 → H 123 k = h 123 k := fun k hk => by rcases hk with rfl | rfl | rfl; exact k3_; exact k4_; exact k9_
          exact kE H N J (IV_up (by omega) (IV_o hI gF g0 g3 ⟨TPE_fr t1_ (gR 85 (by omega) (by decide) (by decide) (by decide)) t3_ (gR 137 (by omega) (by decide) (by decide) (by decide)) hO.1, SHE_b (so := (-1)) (sz := 0) (by omega) (by omega) (by omega) e0_ e1_ e2_ e3_ (by rw [e5_] <;> omega) e5o (by rw [e6_] <;> omega) e6o e7_ e8_ hO.2.1, SLE_fr (fun c h1 h2 => gR c (by omega) (by omega) (by omega) (by omega)) (gR 148 (by omega) (by decide) (by decide) (by decide)) (gR 149 (by omega) (by decide) (by decide) (by decide)) (gR 150 (by omega) (by decide) (by decide) (by decide)) (gR 151 (by omega) (by decide) (by decide) (by decide)) hO.2.2.1, WTE_fr w0_ w1_ (gR 89 (by omega) (by decide) (by decide) (by decide)) (gR 153 (by omega) (by decide) (by decide) (by decide)) hO.2.2.2.1, CNE_fr (gR 138 (by omega) (by decide) (by decide) (by decide)) (gR 139 (by omega) (by decide) (by decide) (by decide)) hO.2.2.2.2⟩))
        · refine a_iconst dL_law_1257 ⟨by decide, by decide⟩ ?_
          exact a_zret dL_law_1258 rfl (by first | exact Or.inl rfl | exact Or.inr rfl | omega) (by exfalso; omega)
      · have t1_1_15 : 0 ≤ ((s0 : Nat) : Int) ∧ ((s0 : Nat) : Int) ≤ 3 := t1_1_15
        have t10_2_15 : (-1) ≤ a2 ∧ a2 ≤ 1 := t10_2_15
        have c17_3_15 : ¬ a2 < 0 := c17_3_15
        have c23_8_15 : a3 ≤ 24 := c23_8_15
        have c30_9_15 : ¬ a2 < 0 := c30_9_15
        have c34_11_15 : 0 ≤ a3 := c34_11_15
        have c54_12_15 : ¬ 0 ≤ a2 := c54_12_15
        show Aj γ mL_law d mc ms Post 1254 [(0, vK 0), (1, vA 0), (2, vA 123), (3, vI ((i : Nat) : Int))] [vI 0, vI 0] (mk (upR (up2 (up2 (upR (up2 (up2 h (90 + 2 * s0) 0 (-1)) (90 + 2 * s0) 1 0) ((90 + 2 * s0) + 1) (fillR 0 24 (h ((90 + 2 * s0) + 1)))) 145 s0 a2) 146 s0 0) 147 (segF 0 (Int.toNat (24 * ((s0 : Nat) : Int))) 24 (h 147))) τ)
        refine a_icmp_eq (tgt := 1668) dL_law_1254 (by decide) (fun _ => ?_) (fun c => absurd c (by decide))
        generalize hHH : (upR (up2 (up2 (upR (up2 (up2 h (90 + 2 * s0) 0 (-1)) (90 + 2 * s0) 1 0) ((90 + 2 * s0) + 1) (fillR 0 24 (h ((90 + 2 * s0) + 1)))) 145 s0 a2) 146 s0 0) 147 (segF 0 (Int.toNat (24 * ((s0 : Nat) : Int))) 24 (h 147))) = H
        have gR : ∀ c, (c < 90 ∨ 98 ≤ c) → c ≠ 145 → c ≠ 146 → c ≠ 147 → H c = h c := fun c q0_ q1_ q2_ q3_ => by rw [← hHH]; exact ((upR_rn (by omega)).trans ((up2_row (by omega)).trans ((up2_row (by omega)).trans ((upR_rn (by omega)).trans ((up2_row (by omega)).trans ((up2_row (by omega)).trans rfl))))))
        have e0_ : H (90 + 2 * s0) 0 = (-1) := by rw [← hHH]; exact ((upR_ne (by omega)).trans ((up2_ne (by omega)).trans ((up2_ne (by omega)).trans ((upR_ne (by omega)).trans ((up2_ne (by omega)).trans (up2_hit (by omega) (by omega)))))))
        have e1_ : H (90 + 2 * s0) 1 = 0 := by rw [← hHH]; exact ((upR_ne (by omega)).trans ((up2_ne (by omega)).trans ((up2_ne (by omega)).trans ((upR_ne (by omega)).trans (up2_hit (by omega) (by omega))))))
        have e3_ : ∀ c, 90 ≤ c → c < 98 → c ≠ 90 + 2 * s0 → c ≠ 90 + 2 * s0 + 1 → H c = h c := fun c q0_ q1_ q2_ q3_ => by rw [← hHH]; exact ((upR_rn (by omega)).trans ((up2_row (by omega)).trans ((up2_row (by omega)).trans ((upR_rn (by omega)).trans ((up2_row (by omega)).trans ((up2_row (by omega)).trans rfl))))))
        have e5_ : H 145 s0 = a2 := by rw [← hHH]; exact ((upR_ne (by omega)).trans ((up2_ne (by omega)).trans (up2_hit (by omega) (by omega))))
        have e5o : ∀ k : Nat, k ≠ s0 → H 145 k = h 145 k := fun k q0_ => by rw [← hHH]; exact ((upR_ne (by omega)).trans ((up2_ne (by omega)).trans ((up2_ne (by omega)).trans ((upR_ne (by omega)).trans ((up2_ne (by omega)).trans ((up2_ne (by omega)).trans rfl))))))
        have e6_ : H 146 s0 = 0 := by rw [← hHH]; exact ((upR_ne (by omega)).trans (up2_hit (by omega) (by omega)))
        have e6o : ∀ k : Nat, k ≠ s0 → H 146 k = h 146 k := fun k q0_ => by rw [← hHH]; exact ((upR_ne (by omega)).trans ((up2_ne (by omega)).trans ((up2_ne (by omega)).trans ((upR_ne (by omega)).trans ((up2_ne (by omega)).trans ((up2_ne (by omega)).trans rfl))))))
        have e2_ : ∀ k : Nat, k < 24 → H ((90 + 2 * s0) + 1) k = 0 := fun k hk => by rw [show H ((90 + 2 * s0) + 1) k = ((fillR 0 24 (h ((90 + 2 * s0) + 1))) k) by rw [← hHH]; exact ((upR_ne (by omega)).trans ((up2_ne (by omega)).trans ((up2_ne (by omega)).trans (upR_hit (by omega)))))]; unfold fillR; rw [if_pos hk]
        have e7g : ∀ k : Nat, H 147 k = ((segF 0 (Int.toNat (24 * ((s0 : Nat) : Int))) 24 (h 147)) k) := fun k => by rw [← hHH]; exact (upR_hit (by omega))
        have e7_ : ∀ k : Nat, k < 24 → H 147 (24 * s0 + k) = 0 := fun k hk => by rw [e7g]; unfold segF; rw [if_pos (by omega)]
        have e8_ : ∀ k : Nat, k < 24 * s0 ∨ 24 * s0 + 24 ≤ k → H 147 k = h 147 k := fun k hk => by rw [e7g]; unfold segF; rw [if_neg (by omega)]
        have t1_ : H 84 1 = h 84 1 := by rw [← hHH]; exact ((upR_ne (by omega)).trans ((up2_ne (by omega)).trans ((up2_ne (by omega)).trans ((upR_ne (by omega)).trans ((up2_ne (by omega)).trans ((up2_ne (by omega)).trans rfl))))))
        have t3_ : H 123 17 = h 123 17 := by rw [← hHH]; exact ((upR_ne (by omega)).trans ((up2_ne (by omega)).trans ((up2_ne (by omega)).trans ((upR_ne (by omega)).trans ((up2_ne (by omega)).trans ((up2_ne (by omega)).trans rfl))))))
        have w0_ : H 0 12 = h 0 12 := by rw [← hHH]; exact ((upR_ne (by omega)).trans ((up2_ne (by omega)).trans ((up2_ne (by omega)).trans ((upR_ne (by omega)).trans ((up2_ne (by omega)).trans ((up2_ne (by omega)).trans rfl))))))
        have w1_ : H 123 44 = h 123 44 := by rw [← hHH]; exact ((upR_ne (by omega)).trans ((up2_ne (by omega)).trans ((up2_ne (by omega)).trans ((upR_ne (by omega)).trans ((up2_ne (by omega)).trans ((up2_ne (by omega)).trans rfl))))))
        have g0 : ∀ k : Nat, k ≠ 12 → H 0 k = h 0 k := fun k q0_ => by rw [← hHH]; exact ((upR_ne (by omega)).trans ((up2_ne (by omega)).trans ((up2_ne (by omega)).trans ((upR_ne (by omega)).trans ((up2_ne (by omega)).trans ((up2_ne (by omega)).trans rfl))))))
        have gF : ∀ c, ((1 ≤ c ∧ c < 84) ∨ (124 ≤ c ∧ c < 137)) → H c = h c := fun c q0_ => by rw [← hHH]; exact ((upR_rn (by omega)).trans ((up2_row (by omega)).trans ((up2_row (by omega)).trans ((upR_rn (by omega)).trans ((up2_row (by omega)).trans ((up2_row (by omega)).trans rfl))))))
        have k3_ : H 123 3 = h 123 3 := by rw [← hHH]; exact ((upR_ne (by omega)).trans ((up2_ne (by omega)).trans ((up2_ne (by omega)).trans ((upR_ne (by omega)).trans ((up2_ne (by omega)).trans ((up2_ne (by omega)).trans rfl))))))
        have k4_ : H 123 4 = h 123 4 := by rw [← hHH]; exact ((upR_ne (by omega)).trans ((up2_ne (by omega)).trans ((up2_ne (by omega)).trans ((upR_ne (by omega)).trans ((up2_ne (by omega)).trans ((up2_ne (by omega)).trans rfl))))))
        have k9_ : H 123 9 = h 123 9 := by rw [← hHH]; exact ((upR_ne (by omega)).trans ((up2_ne (by omega)).trans ((up2_ne (by omega)).trans ((upR_ne (by omega)).trans ((up2_ne (by omega)).trans ((up2_ne (by omega)).trans rfl))))))
        have g3 : ∀ k, k = 3 ∨ k = 4 ∨ k = 9 → H 123 k = h 123 k := fun k hk => by rcases hk with rfl | rfl | rfl; exact k3_; exact k4_; exact k9_
        exact kE H N J (IV_up (by omega) (IV_o hI gF g0 g3 ⟨TPE_fr t1_ (gR 85 (by omega) (by decide) (by decide) (by decide)) t3_ (gR 137 (by omega) (by decide) (by decide) (by decide)) hO.1, SHE_b (so := (-1)) (sz := 0) (by omega) (by omega) (by omega) e0_ e1_ e2_ e3_ (by rw [e5_] <;> omega) e5o (by rw [e6_] <;> omega) e6o e7_ e8_ hO.2.1, SLE_fr (fun c h1 h2 => gR c (by omega) (by omega) (by omega) (by omega)) (gR 148 (by omega) (by decide) (by decide) (by decide)) (gR 149 (by omega) (by decide) (by decide) (by decide)) (gR 150 (by omega) (by decide) (by decide) (by decide)) (gR 151 (by omega) (by decide) (by decide) (by decide)) hO.2.2.1, WTE_fr w0_ w1_ (gR 89 (by omega) (by decide) (by decide) (by decide)) (gR 153 (by omega) (by decide) (by decide) (by decide)) hO.2.2.2.1, CNE_fr (gR 138 (by omega) (by decide) (by decide) (by decide)) (gR 139 (by omega) (by decide) (by decide) (by decide)) hO.2.2.2.2⟩))
      · have t1_1_15 : 0 ≤ ((s0 : Nat) : Int) ∧ ((s0 : Nat) : Int) ≤ 3 := t1_1_15
        have t10_2_15 : (-1) ≤ a2 ∧ a2 ≤ 1 := t10_2_15
        have c17_3_15 : ¬ a2 < 0 := c17_3_15
        have c23_8_15 : a3 ≤ 24 := c23_8_15
        have c30_9_15 : ¬ a2 < 0 := c30_9_15
        have c34_11_15 : ¬ 0 ≤ a3 := c34_11_15
        show Aj γ mL_law d mc ms Post 1254 [(0, vK 0), (1, vA 0), (2, vA 123), (3, vI ((i : Nat) : Int))] [vI (-1000000014), vI 0] (mk (upR (up2 (up2 h (90 + 2 * s0) 0 (-1)) (90 + 2 * s0) 1 0) ((90 + 2 * s0) + 1) (fillR 0 24 (h ((90 + 2 * s0) + 1)))) τ)
        refine a_icmp_eq (tgt := 1668) dL_law_1254 (by decide) (fun c => absurd c (by decide)) (fun _ => ?_)
        refine a_iconst dL_law_1257 ⟨by decide, by decide⟩ ?_
        exact a_zret dL_law_1258 rfl (by first | exact Or.inl rfl | exact Or.inr rfl | omega) (by exfalso; omega)
      · have t1_1_15 : 0 ≤ ((s0 : Nat) : Int) ∧ ((s0 : Nat) : Int) ≤ 3 := t1_1_15
        have t10_2_15 : (-1) ≤ a2 ∧ a2 ≤ 1 := t10_2_15
        have c17_3_15 : ¬ a2 < 0 := c17_3_15
        have c23_8_15 : ¬ a3 ≤ 24 := c23_8_15
        show Aj γ mL_law d mc ms Post 1254 [(0, vK 0), (1, vA 0), (2, vA 123), (3, vI ((i : Nat) : Int))] [vI (-1000000001), vI 0] (mk (upR (up2 (up2 h (90 + 2 * s0) 0 (-1)) (90 + 2 * s0) 1 0) ((90 + 2 * s0) + 1) (fillR 0 24 (h ((90 + 2 * s0) + 1)))) τ)
        refine a_icmp_eq (tgt := 1668) dL_law_1254 (by decide) (fun c => absurd c (by decide)) (fun _ => ?_)
        refine a_iconst dL_law_1257 ⟨by decide, by decide⟩ ?_
        exact a_zret dL_law_1258 rfl (by first | exact Or.inl rfl | exact Or.inr rfl | omega) (by exfalso; omega)
      · exfalso
        omega
      · exfalso
        omega
    · have t1_1_1 : 0 ≤ ((s0 : Nat) : Int) ∧ ((s0 : Nat) : Int) ≤ 3 := t1_1_1
      have t10_2_1 : ¬ ((-1) ≤ a2 ∧ a2 ≤ 1) := t10_2_1
      show Aj γ mL_law d mc ms Post 1235 [(0, vK 0), (1, vA 0), (2, vA 123), (3, vI ((i : Nat) : Int))] [vI (-1000000001)] (mk h τ)
      refine a_aload_n (j := 2) dL_law_1235 rfl rfl (Nat.le_of_ble_eq_true rfl) ?_
      refine a_aload_n (j := 0) dL_law_1236 rfl rfl (Nat.le_of_ble_eq_true rfl) ?_
      refine a_iload_n (j := 3) dL_law_1237 rfl rfl ?_
      refine a_iconst dL_law_1238 ⟨by decide, by decide⟩ ?_
      refine a_iadd (z := (((i : Nat) : Int) + 1)) dL_law_1239 (w_ok (by omega) (by omega)) ?_
      refine a_sld (i + 1) dL_law_1240 (by omega) (by omega) ?_
      rw [ha1]
      refine a_aload_n (j := 0) dL_law_1241 rfl rfl (Nat.le_of_ble_eq_true rfl) ?_
      refine a_iload_n (j := 3) dL_law_1242 rfl rfl ?_
      refine a_iconst dL_law_1243 ⟨by decide, by decide⟩ ?_
      refine a_iadd (z := (((i : Nat) : Int) + 2)) dL_law_1244 (w_ok (by omega) (by omega)) ?_
      refine a_sld (i + 2) dL_law_1245 (by omega) (by omega) ?_
      rw [ha2]
      refine a_aload_n (j := 0) dL_law_1246 rfl rfl (Nat.le_of_ble_eq_true rfl) ?_
      refine a_iload_n (j := 3) dL_law_1247 rfl rfl ?_
      refine a_iconst dL_law_1248 ⟨by decide, by decide⟩ ?_
      refine a_iadd (z := (((i : Nat) : Int) + 3)) dL_law_1249 (w_ok (by omega) (by omega)) ?_
      refine a_sld (i + 3) dL_law_1250 (by omega) (by omega) ?_
      rw [ha3]
      refine b_callV (d' := d - 1) (mc' := 0) (ms' := 0) (mc1 := mc) (ms1 := ms) (st := [vI (-1000000001)]) (b := 123) [vI ((s0 : Nat) : Int), vI a2, vI a3] dL_law_1251 mwX9_sheet lkL_154 (by decide) rfl rc_X9 rfl (Nat.le_of_ble_eq_true rfl) (by omega) (by omega) (by omega) (c_X9_sheet (f1 := (h 147)) (by omega)  rfl  (fun t1_1_19 t10_2_19 c17_3_19 c30_4_19 c54_5_19 => ?_) (fun t1_1_19 t10_2_19 c17_3_19 c30_4_19 c54_5_19 => ?_) (fun t1_1_19 t10_2_19 c17_3_19 c30_4_19 c34_6_19 c54_7_19 => ?_) (fun t1_1_19 t10_2_19 c17_3_19 c30_4_19 c34_6_19 c54_7_19 => ?_) (fun t1_1_19 t10_2_19 c17_3_19 c30_4_19 c34_6_19 => ?_) (fun t1_1_19 t10_2_19 c17_3_19 c23_8_19 c30_9_19 c54_10_19 => ?_) (fun t1_1_19 t10_2_19 c17_3_19 c23_8_19 c30_9_19 c54_10_19 => ?_) (fun t1_1_19 t10_2_19 c17_3_19 c23_8_19 c30_9_19 c34_11_19 c54_12_19 => ?_) (fun t1_1_19 t10_2_19 c17_3_19 c23_8_19 c30_9_19 c34_11_19 c54_12_19 => ?_) (fun t1_1_19 t10_2_19 c17_3_19 c23_8_19 c30_9_19 c34_11_19 => ?_) (fun t1_1_19 t10_2_19 c17_3_19 c23_8_19 => ?_) (fun t1_1_19 t10_2_19 => ?_) (fun t1_1_19 => ?_))
      · exfalso
        omega
      · exfalso
        omega
      · exfalso
        omega
      · exfalso
        omega
      · exfalso
        omega
      · exfalso
        omega
      · exfalso
        omega
      · exfalso
        omega
      · exfalso
        omega
      · exfalso
        omega
      · exfalso
        omega
      · have t1_1_19 : 0 ≤ ((s0 : Nat) : Int) ∧ ((s0 : Nat) : Int) ≤ 3 := t1_1_19
        have t10_2_19 : ¬ ((-1) ≤ a2 ∧ a2 ≤ 1) := t10_2_19
        show Aj γ mL_law d mc ms Post 1254 [(0, vK 0), (1, vA 0), (2, vA 123), (3, vI ((i : Nat) : Int))] [vI (-1000000001), vI (-1000000001)] (mk h τ)
        refine a_icmp_eq (tgt := 1668) dL_law_1254 (by decide) (fun _ => ?_) (fun c => absurd c (by decide))
        exact kE h N J (IV_up (by omega) hI)
      · exfalso
        omega
    · exfalso
      omega
