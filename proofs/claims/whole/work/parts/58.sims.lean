set_option maxHeartbeats 16000000 in
theorem s_ride {γ : GT} {d mc ms n i : Nat} {N J : Nat → Int} {h : Nat → Nat → Int} {τ : List AC} {Post : Option AV → List AC → Prop} (hd : 30 ≤ d) (hn : n < 64) (hi : i + 5 < g_L γ) (hL : g_L γ ≤ 384) (hI : IVp n h τ N J) (kE : ∀ h' N' J', IVp (n + 1) h' τ N' J' → Aj γ mL_law d mc ms Post 1668 [(0, vK 0), (1, vA 0), (2, vA 123), (3, vI ((i : Nat) : Int))] [] (mk h' τ)) : Aj γ mL_law d mc ms Post 1160 [(0, vK 0), (1, vA 0), (2, vA 123), (3, vI ((i : Nat) : Int))] [] (mk h τ) := by
  obtain ⟨hN, hJ, hX, hR, hk, hkK, hC, hRC, hst, hO⟩ := id hI
  have hsc := hX.1.1
  have hs1 := hsc.1
  have hs2 := hsc.2.1
  have hs3 := hsc.2.2.1
  have hs4 := hsc.2.2.2.1
  have hs5 := hsc.2.2.2.2
  have hs6 := hX.1.2.2.2.1
  have hx7 := hX.2.1
  have hx8 := hX.2.2.2.1
  obtain ⟨a1, ha1⟩ : ∃ z, (g_x γ (i + 1)).toInt = z := ⟨_, rfl⟩
  have ra1 : inI a1 := ha1 ▸ i32_rng _
  unfold inI at ra1
  obtain ⟨a2, ha2⟩ : ∃ z, (g_x γ (i + 2)).toInt = z := ⟨_, rfl⟩
  have ra2 : inI a2 := ha2 ▸ i32_rng _
  unfold inI at ra2
  refine a_aload_n (j := 1) dL_law_1160 rfl rfl (Nat.le_of_ble_eq_true rfl) ?_
  refine a_aload_n (j := 0) dL_law_1161 rfl rfl (Nat.le_of_ble_eq_true rfl) ?_
  refine a_iload_n (j := 3) dL_law_1162 rfl rfl ?_
  refine a_iconst dL_law_1163 ⟨by decide, by decide⟩ ?_
  refine a_iadd (z := (((i : Nat) : Int) + 1)) dL_law_1164 (w_ok (by omega) (by omega)) ?_
  refine a_sld (i + 1) dL_law_1165 (by omega) (by omega) ?_
  rw [ha1]
  refine a_aload_n (j := 0) dL_law_1166 rfl rfl (Nat.le_of_ble_eq_true rfl) ?_
  refine a_iload_n (j := 3) dL_law_1167 rfl rfl ?_
  refine a_iconst dL_law_1168 ⟨by decide, by decide⟩ ?_
  refine a_iadd (z := (((i : Nat) : Int) + 2)) dL_law_1169 (w_ok (by omega) (by omega)) ?_
  refine a_sld (i + 2) dL_law_1170 (by omega) (by omega) ?_
  rw [ha2]
  refine b_callV (d' := d - 1) (mc' := 0) (ms' := 0) (mc1 := mc) (ms1 := ms) (st := []) (b := 0) [vI a1, vI a2] dL_law_1171 mwX8_ride lkL_143 (by decide) rfl rc_X8 rfl (Nat.le_of_ble_eq_true rfl) (by omega) (by omega) (by omega) (q_X8_ride (N := N) (J := J) (by omega) hR hX hC (fun hin => ?_) (fun hin h7 hF7 a7 b7 d7 c7 => ?_))
  · show Aj γ mL_law d mc ms Post 1174 [(0, vK 0), (1, vA 0), (2, vA 123), (3, vI ((i : Nat) : Int))] [vI (-1000000001)] (mk h τ)
    refine a_aload_n (j := 2) dL_law_1174 rfl rfl (Nat.le_of_ble_eq_true rfl) ?_
    refine a_aload_n (j := 0) dL_law_1175 rfl rfl (Nat.le_of_ble_eq_true rfl) ?_
    refine a_iload_n (j := 3) dL_law_1176 rfl rfl ?_
    refine a_iconst dL_law_1177 ⟨by decide, by decide⟩ ?_
    refine a_iadd (z := (((i : Nat) : Int) + 1)) dL_law_1178 (w_ok (by omega) (by omega)) ?_
    refine a_sld (i + 1) dL_law_1179 (by omega) (by omega) ?_
    rw [ha1]
    refine a_aload_n (j := 0) dL_law_1180 rfl rfl (Nat.le_of_ble_eq_true rfl) ?_
    refine a_iload_n (j := 3) dL_law_1181 rfl rfl ?_
    refine a_iconst dL_law_1182 ⟨by decide, by decide⟩ ?_
    refine a_iadd (z := (((i : Nat) : Int) + 2)) dL_law_1183 (w_ok (by omega) (by omega)) ?_
    refine a_sld (i + 2) dL_law_1184 (by omega) (by omega) ?_
    rw [ha2]
    refine b_callV (d' := d - 1) (mc' := 0) (ms' := 0) (mc1 := mc) (ms1 := ms) (st := [vI (-1000000001)]) (b := 123) [vI a1, vI a2] dL_law_1185 mwX9_ride lkL_146 (by decide) rfl rc_X9 rfl (Nat.le_of_ble_eq_true rfl) (by omega) (by omega) (by omega) (q_X9_ride (N := N) (by omega) hN hX hRC (fun _ => ?_) (fun hin2 => absurd hin2 hin))
    show Aj γ mL_law d mc ms Post 1188 [(0, vK 0), (1, vA 0), (2, vA 123), (3, vI ((i : Nat) : Int))] [vI (-1000000001), vI (-1000000001)] (mk h τ)
    refine a_icmp_eq (tgt := 1668) dL_law_1188 (by decide) (fun _ => ?_) (fun c => absurd c (by decide))
    exact kE h N J (IV_up (by omega) hI)
  · show Aj γ mL_law d mc ms Post 1174 [(0, vK 0), (1, vA 0), (2, vA 123), (3, vI ((i : Nat) : Int))] [vI ((vRide N a1 a2).1)] (mk h7 τ)
    have hN7 : h7 124 = N := (hF7 124 (by decide)).trans hN
    have hRC7 : RC h7 N := RC_f (fun c h1 h2 => hF7 c (by simp only [List.mem_cons, List.not_mem_nil, or_false]; omega)) hRC
    refine a_aload_n (j := 2) dL_law_1174 rfl rfl (Nat.le_of_ble_eq_true rfl) ?_
    refine a_aload_n (j := 0) dL_law_1175 rfl rfl (Nat.le_of_ble_eq_true rfl) ?_
    refine a_iload_n (j := 3) dL_law_1176 rfl rfl ?_
    refine a_iconst dL_law_1177 ⟨by decide, by decide⟩ ?_
    refine a_iadd (z := (((i : Nat) : Int) + 1)) dL_law_1178 (w_ok (by omega) (by omega)) ?_
    refine a_sld (i + 1) dL_law_1179 (by omega) (by omega) ?_
    rw [ha1]
    refine a_aload_n (j := 0) dL_law_1180 rfl rfl (Nat.le_of_ble_eq_true rfl) ?_
    refine a_iload_n (j := 3) dL_law_1181 rfl rfl ?_
    refine a_iconst dL_law_1182 ⟨by decide, by decide⟩ ?_
    refine a_iadd (z := (((i : Nat) : Int) + 2)) dL_law_1183 (w_ok (by omega) (by omega)) ?_
    refine a_sld (i + 2) dL_law_1184 (by omega) (by omega) ?_
    rw [ha2]
    refine b_callV (d' := d - 1) (mc' := 0) (ms' := 0) (mc1 := mc) (ms1 := ms) (st := [vI ((vRide N a1 a2).1)]) (b := 123) [vI a1, vI a2] dL_law_1185 mwX9_ride lkL_146 (by decide) rfl rc_X9 rfl (Nat.le_of_ble_eq_true rfl) (by omega) (by omega) (by omega) (q_X9_ride (N := N) (by omega) hN7 hX hRC7 (fun hin2 => absurd hin hin2) (fun _ h8 hF8 a8 b8 k8 c8 => ?_))
    show Aj γ mL_law d mc ms Post 1188 [(0, vK 0), (1, vA 0), (2, vA 123), (3, vI ((i : Nat) : Int))] [vI ((vRide N a1 a2).1), vI ((vRide N a1 a2).1)] (mk h8 τ)
    refine a_icmp_eq (tgt := 1668) dL_law_1188 (by decide) (fun c1188_1 => ?_) (fun c1188_1 => ?_)
    · exact kE h8 (h8 124) J (IV_up (by omega) (IV_ride hI hF7 a7 b7 d7 c7 hF8 a8 b8 k8 c8))
    · refine a_iconst dL_law_1191 ⟨by decide, by decide⟩ ?_
      exact a_zret dL_law_1192 rfl (by first | exact Or.inl rfl | exact Or.inr rfl | omega) (by exfalso; omega)
set_option maxHeartbeats 16000000 in
theorem s_check {γ : GT} {d mc ms n i : Nat} {N J : Nat → Int} {h : Nat → Nat → Int} {τ : List AC} {Post : Option AV → List AC → Prop} (hd : 30 ≤ d) (hn : n < 64) (hi : i + 5 < g_L γ) (hL : g_L γ ≤ 384) (hI : IVp n h τ N J) (kE : ∀ h' N' J', IVp (n + 1) h' τ N' J' → Aj γ mL_law d mc ms Post 1668 [(0, vK 0), (1, vA 0), (2, vA 123), (3, vI ((i : Nat) : Int))] [] (mk h' τ)) : Aj γ mL_law d mc ms Post 1596 [(0, vK 0), (1, vA 0), (2, vA 123), (3, vI ((i : Nat) : Int))] [] (mk h τ) := by
  obtain ⟨hN, hJ, hX, hR, hk, hkK, hC, hRC, hst, hO⟩ := id hI
  have hsc := hX.1.1
  have hs1 := hsc.1
  have hs2 := hsc.2.1
  have hs3 := hsc.2.2.1
  have hs4 := hsc.2.2.2.1
  have hs5 := hsc.2.2.2.2
  have hs6 := hX.1.2.2.2.1
  have hx7 := hX.2.1
  have hx8 := hX.2.2.2.1
  obtain ⟨a1, ha1⟩ : ∃ z, (g_x γ (i + 1)).toInt = z := ⟨_, rfl⟩
  have ra1 : inI a1 := ha1 ▸ i32_rng _
  unfold inI at ra1
  refine a_aload_n (j := 1) dL_law_1596 rfl rfl (Nat.le_of_ble_eq_true rfl) ?_
  refine a_aload_n (j := 0) dL_law_1597 rfl rfl (Nat.le_of_ble_eq_true rfl) ?_
  refine a_iload_n (j := 3) dL_law_1598 rfl rfl ?_
  refine a_iconst dL_law_1599 ⟨by decide, by decide⟩ ?_
  refine a_iadd (z := (((i : Nat) : Int) + 1)) dL_law_1600 (w_ok (by omega) (by omega)) ?_
  refine a_sld (i + 1) dL_law_1601 (by omega) (by omega) ?_
  rw [ha1]
  refine b_callV (d' := d - 1) (mc' := 0) (ms' := 0) (mc1 := mc) (ms1 := ms) (st := []) (b := 0) [vI a1] dL_law_1602 mwX8_check lkL_192 (by decide) rfl rc_X8 rfl (Nat.le_of_ble_eq_true rfl) (by omega) (by omega) (by omega) (q_X8_check (N := N) (J := J) (kp := h 123 3) (told := h 123 44) (wr := h 153) (by omega) hk.1 hk.2 hkK hC hO.2.2.2.1.1 hO.2.2.2.1.2.1 hO.2.2.2.1.2.2 (fun h7 hF7 a7 z7 c7 => ?_))
  show Aj γ mL_law d mc ms Post 1605 [(0, vK 0), (1, vA 0), (2, vA 123), (3, vI ((i : Nat) : Int))] [vI (vCheck (h 123 3) J (h 153) (h 123 44) a1)] (mk h7 τ)
  refine a_aload_n (j := 2) dL_law_1605 rfl rfl (Nat.le_of_ble_eq_true rfl) ?_
  refine a_aload_n (j := 0) dL_law_1606 rfl rfl (Nat.le_of_ble_eq_true rfl) ?_
  refine a_iload_n (j := 3) dL_law_1607 rfl rfl ?_
  refine a_iconst dL_law_1608 ⟨by decide, by decide⟩ ?_
  refine a_iadd (z := (((i : Nat) : Int) + 1)) dL_law_1609 (w_ok (by omega) (by omega)) ?_
  refine a_sld (i + 1) dL_law_1610 (by omega) (by omega) ?_
  rw [ha1]
  refine b_callV (d' := d - 1) (mc' := 0) (ms' := 0) (mc1 := mc) (ms1 := ms) (st := [vI (vCheck (h 123 3) J (h 153) (h 123 44) a1)]) (b := 123) [vI a1] dL_law_1611 mwX9_check lkL_195 (by decide) rfl rc_X9 rfl (Nat.le_of_ble_eq_true rfl) (by omega) (by omega) (by omega) (q_X9_check (N := N) (J := J) (kp := h 123 3) (told := h 123 44) (wr := h 153) (by omega) ((hF7 124 (by decide)).trans hN) ((hF7 125 (by decide)).trans hJ) (Fr_v hF7 (by decide)) hk.2 (fun q => (hkK q).1) (RC_f (fun c h1 h2 => hF7 c (by simp only [List.mem_cons, List.not_mem_nil, or_false]; omega)) hRC) (Fr_v hF7 (by decide)) hO.2.2.2.1.2.1 (hF7 153 (by decide)) (fun h8 hF8 k8 z8 c8 => ?_))
  show Aj γ mL_law d mc ms Post 1614 [(0, vK 0), (1, vA 0), (2, vA 123), (3, vI ((i : Nat) : Int))] [vI (vCheck (h 123 3) J (h 153) (h 123 44) a1), vI (vCheck (h 123 3) J (h 153) (h 123 44) a1)] (mk h8 τ)
  refine a_icmp_eq (tgt := 1668) dL_law_1614 (by decide) (fun c1614_1 => ?_) (fun c1614_1 => ?_)
  · exact kE h8 N J (IV_up (by omega) (IV_chk hI hF7 a7 z7 c7 hF8 k8 z8 c8))
  · refine a_iconst dL_law_1617 ⟨by decide, by decide⟩ ?_
    exact a_zret dL_law_1618 rfl (by first | exact Or.inl rfl | exact Or.inr rfl | omega) (by exfalso; omega)
theorem q_X8_keep {γ : GT} {d : Nat} {N : Nat → Int} {h : Nat → Nat → Int} {τ : List AC} {Post : Option AV → List AC → Prop} (hd : 8 ≤ d) (hR : WR h τ 1 N) (hX : NX N) (kQ : ∀ h', (∀ c, ¬ (32 ≤ c ∧ c < 63) → c ≠ 0 → h' c = h c) → (∀ k, k ≠ 2 → h' 0 k = h 0 k) → h' 0 2 = 1 → h' 32 0 = h 1 0 → WR h' τ 32 N → Post (some (vI (N 5))) (mk h' τ)) : Cj γ mX8_keep d 0 0 [vA 0] (mk h τ) Post := by
  have h5 := hX.1.1.2.2.2.2
  refine c_of (by decide) (Nat.le_of_ble_eq_true rfl) ?_
  show Aj γ mX8_keep d 0 0 Post 0 [(0, vA 0)] [] (mk h τ)
  refine a_aload_n (j := 0) dX8_keep_0 rfl rfl (Nat.le_of_ble_eq_true rfl) ?_
  refine b_getp (a := 0) (p := 32) dX8_keep_1 fwX8_18 (by decide) rfl (by decide) rfl rfl ?_
  refine a_aload_n (j := 0) dX8_keep_4 rfl rfl (Nat.le_of_ble_eq_true rfl) ?_
  refine b_getp (a := 0) (p := 1) dX8_keep_5 fwX8_14 (by decide) rfl (by decide) rfl rfl ?_
  refine b_callV (d' := d - 1) (mc' := 0) (ms' := 0) (mc1 := 0) (ms1 := 0) (st := []) (b := 32) [vA 1] dX8_keep_8 mwX7_takeFrom lkX8_332 (by decide) rfl rc_X7 rfl (Nat.le_of_ble_eq_true rfl) (by omega) rfl rfl (c_X7_takeFrom_32 (N := N) (by omega) hR hX (fun h7 q7 s7 w7 => ?_))
  show Aj γ mX8_keep d 0 0 Post 11 [(0, vA 0)] [] (mk h7 τ)
  refine a_aload_n (j := 0) dX8_keep_11 rfl rfl (Nat.le_of_ble_eq_true rfl) ?_
  refine a_iconst dX8_keep_12 ⟨by decide, by decide⟩ ?_
  refine b_put (a := 0) (v := vI 1) dX8_keep_13 pwX8_325 (fun h => nomatch h) (by decide) rfl (by decide) rfl rfl (fit_bool (by first | exact Or.inl rfl | exact Or.inr rfl | omega)) ?_
  show Aj γ mX8_keep d 0 0 Post 16 [(0, vA 0)] [] (mk (up2 h7 0 2 1) τ)
  refine a_aload_n (j := 0) dX8_keep_16 rfl rfl (Nat.le_of_ble_eq_true rfl) ?_
  refine b_getp (a := 0) (p := 32) dX8_keep_17 fwX8_18 (by decide) rfl (by decide) rfl rfl ?_
  refine b_get (a := 32) (z := N 5) (t := 0) dX8_keep_20 fwX8_102 (by decide) rfl (by decide) rfl rfl ((up2_ne (by omega)).trans w7.1.2.1) ?_
  exact a_iret dX8_keep_23 rfl (kQ _ (fun c a b => (up2_row b).trans (q7 c (by omega))) (fun k hk => (up2_ne (by omega)).trans (congrFun (q7 0 (by omega)) k)) up2_at ((up2_ne (by decide)).trans s7) (WR_g (Or.inr rfl) (by omega) (fun c _ _ => up2_row (by omega)) w7))
theorem q_X8_back {γ : GT} {d : Nat} {kp : Int} {J : Nat → Int} {h : Nat → Nat → Int} {τ : List AC} {Post : Option AV → List AC → Prop} (hd : 8 ≤ d) (hkp : h 0 2 = kp) (h01 : kp = 0 ∨ kp = 1) (hK : kp = 1 → NX J ∧ WR h τ 32 J) (kN : kp = 0 → Post (some (vI (-1000000002))) (mk h τ)) (kQ : kp = 1 → ∀ h', (∀ c, ¬ (1 ≤ c ∧ c < 32) → h' c = h c) → h' 1 0 = h 32 0 → WR h' τ 1 J → Post (some (vI (J 5))) (mk h' τ)) : Cj γ mX8_back d 0 0 [vA 0] (mk h τ) Post := by
  refine c_of (by decide) (Nat.le_of_ble_eq_true rfl) ?_
  show Aj γ mX8_back d 0 0 Post 0 [(0, vA 0)] [] (mk h τ)
  refine a_aload_n (j := 0) dX8_back_0 rfl rfl (Nat.le_of_ble_eq_true rfl) ?_
  refine b_get (a := 0) (z := kp) (t := 0) dX8_back_1 fwX8_325 (by decide) rfl (by decide) rfl rfl hkp ?_
  refine a_if_ne (tgt := 10) dX8_back_4 (by decide) (fun c4_1 => ?_) (fun c4_1 => ?_)
  · obtain ⟨hXJ, hRJ⟩ := hK (by omega)
    refine a_aload_n (j := 0) dX8_back_10 rfl rfl (Nat.le_of_ble_eq_true rfl) ?_
    refine b_getp (a := 0) (p := 1) dX8_back_11 fwX8_14 (by decide) rfl (by decide) rfl rfl ?_
    refine a_aload_n (j := 0) dX8_back_14 rfl rfl (Nat.le_of_ble_eq_true rfl) ?_
    refine b_getp (a := 0) (p := 32) dX8_back_15 fwX8_18 (by decide) rfl (by decide) rfl rfl ?_
    refine b_callV (d' := d - 1) (mc' := 0) (ms' := 0) (mc1 := 0) (ms1 := 0) (st := []) (b := 1) [vA 32] dX8_back_18 mwX7_takeFrom lkX8_332 (by decide) rfl rc_X7 rfl (Nat.le_of_ble_eq_true rfl) (by omega) rfl rfl (c_X7_takeFrom_1 (N := J) (by omega) hRJ hXJ (fun h7 q7 s7 w7 => ?_))
    show Aj γ mX8_back d 0 0 Post 21 [(0, vA 0)] [] (mk h7 τ)
    refine a_aload_n (j := 0) dX8_back_21 rfl rfl (Nat.le_of_ble_eq_true rfl) ?_
    refine b_getp (a := 0) (p := 1) dX8_back_22 fwX8_14 (by decide) rfl (by decide) rfl rfl ?_
    refine b_get (a := 1) (z := J 5) (t := 0) dX8_back_25 fwX8_102 (by decide) rfl (by decide) rfl rfl w7.1.2.1 ?_
    exact a_iret dX8_back_28 rfl (kQ (by omega) h7 q7 s7 w7)
  · refine a_ldc (z := (-1000000002)) dX8_back_7 kwX8_176 ⟨by decide, by decide, by decide⟩ ?_
    exact a_iret dX8_back_9 rfl (kN (by omega))
set_option maxHeartbeats 16000000 in
theorem s_keep {γ : GT} {d mc ms n i : Nat} {N J : Nat → Int} {h : Nat → Nat → Int} {τ : List AC} {Post : Option AV → List AC → Prop} (hd : 30 ≤ d) (hn : n < 64) (hi : i + 5 < g_L γ) (hL : g_L γ ≤ 384) (hI : IVp n h τ N J) (kE : ∀ h' N' J', IVp (n + 1) h' τ N' J' → Aj γ mL_law d mc ms Post 1668 [(0, vK 0), (1, vA 0), (2, vA 123), (3, vI ((i : Nat) : Int))] [] (mk h' τ)) : Aj γ mL_law d mc ms Post 1619 [(0, vK 0), (1, vA 0), (2, vA 123), (3, vI ((i : Nat) : Int))] [] (mk h τ) := by
  obtain ⟨hN, hJ, hX, hR, hk, hkK, hC, hRC, hst, hO⟩ := id hI
  have hsc := hX.1.1
  have hs1 := hsc.1
  have hs2 := hsc.2.1
  have hs3 := hsc.2.2.1
  have hs4 := hsc.2.2.2.1
  have hs5 := hsc.2.2.2.2
  have hs6 := hX.1.2.2.2.1
  have hx7 := hX.2.1
  have hx8 := hX.2.2.2.1
  refine a_aload_n (j := 1) dL_law_1619 rfl rfl (Nat.le_of_ble_eq_true rfl) ?_
  refine b_callV (d' := d - 1) (mc' := 0) (ms' := 0) (mc1 := mc) (ms1 := ms) (st := []) (b := 0) [] dL_law_1620 mwX8_keep lkL_196 (by decide) rfl rc_X8 rfl (Nat.le_of_ble_eq_true rfl) (by omega) (by omega) (by omega) (q_X8_keep (N := N) (by omega) hR hX (fun h7 hF7 a7 b7 s7 w7 => ?_))
  show Aj γ mL_law d mc ms Post 1623 [(0, vK 0), (1, vA 0), (2, vA 123), (3, vI ((i : Nat) : Int))] [vI (N 5)] (mk h7 τ)
  refine a_aload_n (j := 2) dL_law_1623 rfl rfl (Nat.le_of_ble_eq_true rfl) ?_
  refine b_callV (d' := d - 1) (mc' := 0) (ms' := 0) (mc1 := mc) (ms1 := ms) (st := [vI (N 5)]) (b := 123) [] dL_law_1624 mwX9_keep lkL_199 (by decide) rfl rc_X9 rfl (Nat.le_of_ble_eq_true rfl) (by omega) (by omega) (by omega) (c_X9_keep (f1 := N) (f2 := J) (v3 := N 5) (by omega) ((hF7 124 (by omega) (by omega)).trans hN) ((hF7 125 (by omega) (by omega)).trans hJ) (congrFun ((hF7 124 (by omega) (by omega)).trans hN) 5) ?_)
  show Aj γ mL_law d mc ms Post 1627 [(0, vK 0), (1, vA 0), (2, vA 123), (3, vI ((i : Nat) : Int))] [vI (N 5), vI (N 5)] (mk (up2 (upR h7 125 (cpy N J 0 0 1545)) 123 3 1) τ)
  refine a_icmp_eq (tgt := 1668) dL_law_1627 (by decide) (fun c1627_1 => ?_) (fun c1627_1 => ?_)
  · generalize hHH : (up2 (upR h7 125 (cpy N J 0 0 1545)) 123 3 1) = H
    have r : ∀ c, c ≠ 123 → c ≠ 125 → H c = h7 c := fun c p q => by rw [← hHH]; exact (up2_row p).trans (upR_rn q)
    have e5 : H 125 = cpy N J 0 0 1545 := by rw [← hHH]; exact (up2_row (by decide)).trans upR_r
    have b3 : H 123 3 = 1 := by rw [← hHH]; exact up2_at
    have b : ∀ k, k ≠ 3 → H 123 k = h 123 k := fun k hk => by rw [← hHH]; exact (up2_ne (by omega)).trans ((upR_ne (by decide)).trans (congrFun (hF7 123 (by omega) (by omega)) k))
    exact kE H N (H 125) (IV_up (by omega) (IV_keep hI (fun c p q u v => (r c u v).trans (hF7 c p q)) (fun k hk => (congrFun (r 0 (by decide) (by decide)) k).trans (a7 k hk)) ((congrFun (r 0 (by decide) (by decide)) 2).trans b7) ((congrFun (r 32 (by decide) (by decide)) 0).trans s7) (WR_g (Or.inr rfl) (by omega) (fun c p q => r c (by omega) (by omega)) w7) b b3 (fun k hk => by rw [e5]; exact cpy_lt hk)))
  · refine a_iconst dL_law_1630 ⟨by decide, by decide⟩ ?_
    exact a_zret dL_law_1631 rfl (by first | exact Or.inl rfl | exact Or.inr rfl | omega) (by exfalso; omega)
set_option maxHeartbeats 16000000 in
theorem s_back {γ : GT} {d mc ms n i : Nat} {N J : Nat → Int} {h : Nat → Nat → Int} {τ : List AC} {Post : Option AV → List AC → Prop} (hd : 30 ≤ d) (hn : n < 64) (hi : i + 5 < g_L γ) (hL : g_L γ ≤ 384) (hI : IVp n h τ N J) (kE : ∀ h' N' J', IVp (n + 1) h' τ N' J' → Aj γ mL_law d mc ms Post 1668 [(0, vK 0), (1, vA 0), (2, vA 123), (3, vI ((i : Nat) : Int))] [] (mk h' τ)) : Aj γ mL_law d mc ms Post 1632 [(0, vK 0), (1, vA 0), (2, vA 123), (3, vI ((i : Nat) : Int))] [] (mk h τ) := by
  obtain ⟨hN, hJ, hX, hR, hk, hkK, hC, hRC, hst, hO⟩ := id hI
  have hsc := hX.1.1
  have hs1 := hsc.1
  have hs2 := hsc.2.1
  have hs3 := hsc.2.2.1
  have hs4 := hsc.2.2.2.1
  have hs5 := hsc.2.2.2.2
  have hs6 := hX.1.2.2.2.1
  have hx7 := hX.2.1
  have hx8 := hX.2.2.2.1
  refine a_aload_n (j := 1) dL_law_1632 rfl rfl (Nat.le_of_ble_eq_true rfl) ?_
  refine b_callV (d' := d - 1) (mc' := 0) (ms' := 0) (mc1 := mc) (ms1 := ms) (st := []) (b := 0) [] dL_law_1633 mwX8_back lkL_200 (by decide) rfl rc_X8 rfl (Nat.le_of_ble_eq_true rfl) (by omega) (by omega) (by omega) (q_X8_back (kp := h 123 3) (J := J) (by omega) hk.1 hk.2 hkK (fun hin => ?_) (fun hin h7 hF7 s7 w7 => ?_))
  · show Aj γ mL_law d mc ms Post 1636 [(0, vK 0), (1, vA 0), (2, vA 123), (3, vI ((i : Nat) : Int))] [vI (-1000000002)] (mk h τ)
    refine a_aload_n (j := 2) dL_law_1636 rfl rfl (Nat.le_of_ble_eq_true rfl) ?_
    refine b_callV (d' := d - 1) (mc' := 0) (ms' := 0) (mc1 := mc) (ms1 := ms) (st := [vI (-1000000002)]) (b := 123) [] dL_law_1637 mwX9_back lkL_203 (by decide) rfl rc_X9 rfl (Nat.le_of_ble_eq_true rfl) (by omega) (by omega) (by omega) (c_X9_back (v1 := h 123 3) (f2 := J) (f3 := N) (by omega) rfl hJ hN (fun q => absurd hin q) (fun _ => ?_))
    show Aj γ mL_law d mc ms Post 1640 [(0, vK 0), (1, vA 0), (2, vA 123), (3, vI ((i : Nat) : Int))] [vI (-1000000002), vI (-1000000002)] (mk h τ)
    refine a_icmp_eq (tgt := 1668) dL_law_1640 (by decide) (fun _ => ?_) (fun c => absurd c (by decide))
    exact kE h N J (IV_up (by omega) hI)
  · show Aj γ mL_law d mc ms Post 1636 [(0, vK 0), (1, vA 0), (2, vA 123), (3, vI ((i : Nat) : Int))] [vI (J 5)] (mk h7 τ)
    refine a_aload_n (j := 2) dL_law_1636 rfl rfl (Nat.le_of_ble_eq_true rfl) ?_
    refine b_callV (d' := d - 1) (mc' := 0) (ms' := 0) (mc1 := mc) (ms1 := ms) (st := [vI (J 5)]) (b := 123) [] dL_law_1637 mwX9_back lkL_203 (by decide) rfl rc_X9 rfl (Nat.le_of_ble_eq_true rfl) (by omega) (by omega) (by omega) (c_X9_back (v1 := h 123 3) (f2 := J) (f3 := N) (by omega) (congrFun (hF7 123 (by omega)) 3) ((hF7 125 (by omega)).trans hJ) ((hF7 124 (by omega)).trans hN) (fun _ => ?_) (fun q => by omega))
    rw [cpy_lt (by decide)]
    show Aj γ mL_law d mc ms Post 1640 [(0, vK 0), (1, vA 0), (2, vA 123), (3, vI ((i : Nat) : Int))] [vI (J 5), vI (J 5)] (mk (up2 (upR h7 124 (cpy J N 0 0 1545)) 123 4 0) τ)
    refine a_icmp_eq (tgt := 1668) dL_law_1640 (by decide) (fun c1640_1 => ?_) (fun c1640_1 => ?_)
    · generalize hHH : (up2 (upR h7 124 (cpy J N 0 0 1545)) 123 4 0) = H
      have r : ∀ c, c ≠ 123 → c ≠ 124 → H c = h7 c := fun c p q => by rw [← hHH]; exact (up2_row p).trans (upR_rn q)
      have e5 : H 124 = cpy J N 0 0 1545 := by rw [← hHH]; exact (up2_row (by decide)).trans upR_r
      have b4 : H 123 4 = 0 := by rw [← hHH]; exact up2_at
      have b : ∀ k, k ≠ 4 → H 123 k = h 123 k := fun k hk => by rw [← hHH]; exact (up2_ne (by omega)).trans ((upR_ne (by decide)).trans (congrFun (hF7 123 (by omega)) k))
      have h5J := (hkK hin).1.1.1.2.2.2.2
      exact kE H (H 124) J (IV_up (by omega) (IV_back hI hin (fun c p u v => (r c u v).trans (hF7 c p)) ((congrFun (r 1 (by decide) (by decide)) 0).trans s7) (WR_g (Or.inl rfl) (by omega) (fun c p q => r c (by omega) (by omega)) w7) b b4 (fun k hk => by rw [e5]; exact cpy_lt hk)))
    · refine a_iconst dL_law_1643 ⟨by decide, by decide⟩ ?_
      exact a_zret dL_law_1644 rfl (by first | exact Or.inl rfl | exact Or.inr rfl | omega) (by exfalso; omega)
theorem q_X8_textTold_v {γ : GT} {d : Nat} {tn : Nat} {q2 : Int} {N : Nat → Int} {h : Nat → Nat → Int} {τ : List AC} {Post : Option AV → List AC → Prop} (hd : 3 ≤ d) (hR : WR h τ 1 N) (hX : NX N) (ht : (tn : Int) < N 6) (kB : ¬ (0 ≤ q2 ∧ q2 ≤ 1) → Post (some (vI (-1000000001))) (mk h τ)) (k0 : q2 = 0 → Post (some (vI (N (173 + 2 * tn) / 1000))) (mk h τ)) (k1 : q2 = 1 → Post (some (vI (N (173 + 2 * tn + 1)))) (mk h τ)) : Cj γ mX8_textTold d 0 0 [vA 0, vI ((tn : Nat) : Int), vI q2] (mk h τ) Post := by
  have hs6 := hX.1.2.2.2.1
  obtain ⟨q, hz, ft, hq, f0, f1, _⟩ := hR.2.2.2.1 tn ht
  refine c_of (by decide) (Nat.le_of_ble_eq_true rfl) ?_
  show Aj γ mX8_textTold d 0 0 Post 0 [(0, vA 0), (1, vI ((tn : Nat) : Int)), (2, vI q2)] [] (mk h τ)
  refine a_iload_n (j := 1) dX8_textTold_0 rfl rfl ?_
  refine a_iconst dX8_textTold_1 ⟨by decide, by decide⟩ ?_
  refine a_aload_n (j := 0) dX8_textTold_2 rfl rfl (Nat.le_of_ble_eq_true rfl) ?_
  refine b_getp (a := 0) (p := 1) dX8_textTold_3 fwX8_14 (by decide) rfl (by decide) rfl rfl ?_
  refine b_get (a := 1) (z := N 6) (t := 0) dX8_textTold_6 fwX8_232 (by decide) rfl (by decide) rfl rfl hR.1.2.2.1 ?_
  refine a_iconst dX8_textTold_9 ⟨by decide, by decide⟩ ?_
  refine a_isub (z := ((N 6) - 1)) dX8_textTold_10 (w_ok (by omega) (by omega)) ?_
  refine a_callS (d' := d - 1) (mc' := 0) (ms' := 0) (mc1 := 0) (ms1 := 0) (st := []) [vI ((tn : Nat) : Int), vI 0, vI ((N 6) - 1)] dX8_textTold_11 mwX8_within lkX8_68 rfl (Nat.le_of_ble_eq_true rfl) (by omega) rfl rfl (c_X8_within  (by omega)    (fun t11_1 => ?_) (fun t11_1 => ?_))
  · have t11_1 : 0 ≤ ((tn : Nat) : Int) ∧ ((tn : Nat) : Int) ≤ ((N 6) - 1) := t11_1
    show Aj γ mX8_textTold d 0 0 Post 14 [(0, vA 0), (1, vI ((tn : Nat) : Int)), (2, vI q2)] [vI 1] (mk h τ)
    refine a_if_eq (tgt := 38) dX8_textTold_14 (by decide) (fun c => absurd c (by decide)) (fun _ => ?_)
    refine a_iload_n (j := 2) dX8_textTold_17 rfl rfl ?_
    refine a_iconst dX8_textTold_18 ⟨by decide, by decide⟩ ?_
    refine a_iconst dX8_textTold_19 ⟨by decide, by decide⟩ ?_
    refine a_callS (d' := d - 1) (mc' := 0) (ms' := 0) (mc1 := 0) (ms1 := 0) (st := []) [vI q2, vI 0, vI 1] dX8_textTold_20 mwX8_within lkX8_68 rfl (Nat.le_of_ble_eq_true rfl) (by omega) rfl rfl (c_X8_within  (by omega)    (fun t20_2 => ?_) (fun t20_2 => ?_))
    · have t20_2 : 0 ≤ q2 ∧ q2 ≤ 1 := t20_2
      show Aj γ mX8_textTold d 0 0 Post 23 [(0, vA 0), (1, vI ((tn : Nat) : Int)), (2, vI q2)] [vI 1] (mk h τ)
      refine a_if_eq (tgt := 38) dX8_textTold_23 (by decide) (fun c => absurd c (by decide)) (fun _ => ?_)
      refine a_aload_n (j := 0) dX8_textTold_26 rfl rfl (Nat.le_of_ble_eq_true rfl) ?_
      refine b_getp (a := 0) (p := 1) dX8_textTold_27 fwX8_14 (by decide) rfl (by decide) rfl rfl ?_
      refine b_getp (a := 1) (p := 4) dX8_textTold_30 fwX8_235 (by decide) rfl (by decide) rfl rfl ?_
      refine a_iload_n (j := 1) dX8_textTold_33 rfl rfl ?_
      refine b_aaload (a := 4) (z := (((154 + q) : Nat) : Int)) tn dX8_textTold_34 (by decide) rfl qa_17 rfl (by omega) (sp_nil rfl _) hz ?_
      refine a_ifnonnull (tgt := 41) dX8_textTold_35 (by decide) (fun _ => ?_) (fun c => absurd c (by omega))
      refine a_iload_n (j := 2) dX8_textTold_41 rfl rfl ?_
      refine a_if_ne (tgt := 60) dX8_textTold_42 (by decide) (fun c42_3 => ?_) (fun c42_3 => ?_)
      · refine a_aload_n (j := 0) dX8_textTold_60 rfl rfl (Nat.le_of_ble_eq_true rfl) ?_
        refine b_getp (a := 0) (p := 1) dX8_textTold_61 fwX8_14 (by decide) rfl (by decide) rfl rfl ?_
        refine b_getp (a := 1) (p := 4) dX8_textTold_64 fwX8_235 (by decide) rfl (by decide) rfl rfl ?_
        refine a_iload_n (j := 1) dX8_textTold_67 rfl rfl ?_
        refine b_aaload (a := 4) (z := (((154 + q) : Nat) : Int)) tn dX8_textTold_68 (by decide) rfl qa_17 rfl (by omega) (sp_nil rfl _) hz ?_
        refine a_get (a := (154 + q)) (κ := 4) (n := 3) (f := ft) (v := vI (N (173 + 2 * tn + 1))) dX8_textTold_69 fwX8_244 ((mk_dyn q).trans hq) (by decide) (show (et 4 1, ft 1) = vI (N (173 + 2 * tn + 1)) by rw [f1]; rfl) ?_
        exact a_iret dX8_textTold_72 rfl (k1 (by omega))
      · refine a_aload_n (j := 0) dX8_textTold_45 rfl rfl (Nat.le_of_ble_eq_true rfl) ?_
        refine b_getp (a := 0) (p := 1) dX8_textTold_46 fwX8_14 (by decide) rfl (by decide) rfl rfl ?_
        refine b_getp (a := 1) (p := 4) dX8_textTold_49 fwX8_235 (by decide) rfl (by decide) rfl rfl ?_
        refine a_iload_n (j := 1) dX8_textTold_52 rfl rfl ?_
        refine b_aaload (a := 4) (z := (((154 + q) : Nat) : Int)) tn dX8_textTold_53 (by decide) rfl qa_17 rfl (by omega) (sp_nil rfl _) hz ?_
        refine a_get (a := (154 + q)) (κ := 4) (n := 3) (f := ft) (v := vI (N (173 + 2 * tn) / 1000)) dX8_textTold_54 fwX8_239 ((mk_dyn q).trans hq) (by decide) (show (et 4 0, ft 0) = vI (N (173 + 2 * tn) / 1000) by rw [f0]; rfl) ?_
        refine a_goto (tgt := 72) dX8_textTold_57 (by decide) ?_
        exact a_iret dX8_textTold_72 rfl (k0 (by omega))
    · have t20_2 : ¬ (0 ≤ q2 ∧ q2 ≤ 1) := t20_2
      show Aj γ mX8_textTold d 0 0 Post 23 [(0, vA 0), (1, vI ((tn : Nat) : Int)), (2, vI q2)] [vI 0] (mk h τ)
      refine a_if_eq (tgt := 38) dX8_textTold_23 (by decide) (fun _ => ?_) (fun c => absurd c (by decide))
      refine a_ldc (z := (-1000000001)) dX8_textTold_38 kwX8_72 ⟨by decide, by decide, by decide⟩ ?_
      exact a_iret dX8_textTold_40 rfl (kB (by omega))
  · have t11_1 : ¬ (0 ≤ ((tn : Nat) : Int) ∧ ((tn : Nat) : Int) ≤ ((N 6) - 1)) := t11_1
    show Aj γ mX8_textTold d 0 0 Post 14 [(0, vA 0), (1, vI ((tn : Nat) : Int)), (2, vI q2)] [vI 0] (mk h τ)
    refine a_if_eq (tgt := 38) dX8_textTold_14 (by decide) (fun _ => ?_) (fun c => absurd c (by decide))
    refine a_ldc (z := (-1000000001)) dX8_textTold_38 kwX8_72 ⟨by decide, by decide, by decide⟩ ?_
    exact a_iret dX8_textTold_40 rfl (kB (by omega))
theorem q_X8_textTold_n {γ : GT} {d : Nat} {t q2 : Int} {N : Nat → Int} {h : Nat → Nat → Int} {τ : List AC} {Post : Option AV → List AC → Prop} (hd : 3 ≤ d) (hR : WR h τ 1 N) (hX : NX N) (ht : ¬ (0 ≤ t ∧ t < N 6)) (kQ : Post (some (vI (-1000000001))) (mk h τ)) : Cj γ mX8_textTold d 0 0 [vA 0, vI t, vI q2] (mk h τ) Post := by
  have hs6 := hX.1.2.2.2.1
  refine c_of (by decide) (Nat.le_of_ble_eq_true rfl) ?_
  show Aj γ mX8_textTold d 0 0 Post 0 [(0, vA 0), (1, vI t), (2, vI q2)] [] (mk h τ)
  refine a_iload_n (j := 1) dX8_textTold_0 rfl rfl ?_
  refine a_iconst dX8_textTold_1 ⟨by decide, by decide⟩ ?_
  refine a_aload_n (j := 0) dX8_textTold_2 rfl rfl (Nat.le_of_ble_eq_true rfl) ?_
  refine b_getp (a := 0) (p := 1) dX8_textTold_3 fwX8_14 (by decide) rfl (by decide) rfl rfl ?_
  refine b_get (a := 1) (z := N 6) (t := 0) dX8_textTold_6 fwX8_232 (by decide) rfl (by decide) rfl rfl hR.1.2.2.1 ?_
  refine a_iconst dX8_textTold_9 ⟨by decide, by decide⟩ ?_
  refine a_isub (z := ((N 6) - 1)) dX8_textTold_10 (w_ok (by omega) (by omega)) ?_
  refine a_callS (d' := d - 1) (mc' := 0) (ms' := 0) (mc1 := 0) (ms1 := 0) (st := []) [vI t, vI 0, vI ((N 6) - 1)] dX8_textTold_11 mwX8_within lkX8_68 rfl (Nat.le_of_ble_eq_true rfl) (by omega) rfl rfl (c_X8_within  (by omega)    (fun t11_1 => ?_) (fun t11_1 => ?_))
  · have t11_1 : 0 ≤ t ∧ t ≤ ((N 6) - 1) := t11_1
    show Aj γ mX8_textTold d 0 0 Post 14 [(0, vA 0), (1, vI t), (2, vI q2)] [vI 1] (mk h τ)
    refine a_if_eq (tgt := 38) dX8_textTold_14 (by decide) (fun c => absurd c (by decide)) (fun _ => ?_)
    exfalso
    omega
  · have t11_1 : ¬ (0 ≤ t ∧ t ≤ ((N 6) - 1)) := t11_1
    show Aj γ mX8_textTold d 0 0 Post 14 [(0, vA 0), (1, vI t), (2, vI q2)] [vI 0] (mk h τ)
    refine a_if_eq (tgt := 38) dX8_textTold_14 (by decide) (fun _ => ?_) (fun c => absurd c (by decide))
    refine a_ldc (z := (-1000000001)) dX8_textTold_38 kwX8_72 ⟨by decide, by decide, by decide⟩ ?_
    exact a_iret dX8_textTold_40 rfl kQ
set_option maxHeartbeats 16000000 in
theorem s_textTold {γ : GT} {d mc ms n i : Nat} {N J : Nat → Int} {h : Nat → Nat → Int} {τ : List AC} {Post : Option AV → List AC → Prop} (hd : 30 ≤ d) (hn : n < 64) (hi : i + 5 < g_L γ) (hL : g_L γ ≤ 384) (hI : IVp n h τ N J) (kE : ∀ h' N' J', IVp (n + 1) h' τ N' J' → Aj γ mL_law d mc ms Post 1668 [(0, vK 0), (1, vA 0), (2, vA 123), (3, vI ((i : Nat) : Int))] [] (mk h' τ)) : Aj γ mL_law d mc ms Post 1035 [(0, vK 0), (1, vA 0), (2, vA 123), (3, vI ((i : Nat) : Int))] [] (mk h τ) := by
  obtain ⟨hN, hJ, hX, hR, hk, hkK, hC, hRC, hst, hO⟩ := id hI
  have hsc := hX.1.1
  have hs1 := hsc.1
  have hs2 := hsc.2.1
  have hs3 := hsc.2.2.1
  have hs4 := hsc.2.2.2.1
  have hs5 := hsc.2.2.2.2
  have hs6 := hX.1.2.2.2.1
  have hx7 := hX.2.1
  have hx8 := hX.2.2.2.1
  obtain ⟨a1, ha1⟩ : ∃ z, (g_x γ (i + 1)).toInt = z := ⟨_, rfl⟩
  have ra1 : inI a1 := ha1 ▸ i32_rng _
  unfold inI at ra1
  obtain ⟨a2, ha2⟩ : ∃ z, (g_x γ (i + 2)).toInt = z := ⟨_, rfl⟩
  have ra2 : inI a2 := ha2 ▸ i32_rng _
  unfold inI at ra2
  rcases (show ¬ (0 ≤ a1 ∧ a1 < N 6) ∨ (0 ≤ a1 ∧ a1 < N 6) by omega) with hin | hin
  · have y5 : 0 ≤ a1 ∧ a1 < N 6 → 0 ≤ N (Int.toNat (173 + (2 * a1))) ∧ N (Int.toNat (173 + (2 * a1))) ≤ 2999 := fun p => absurd p hin
    refine a_aload_n (j := 1) dL_law_1035 rfl rfl (Nat.le_of_ble_eq_true rfl) ?_
    refine a_aload_n (j := 0) dL_law_1036 rfl rfl (Nat.le_of_ble_eq_true rfl) ?_
    refine a_iload_n (j := 3) dL_law_1037 rfl rfl ?_
    refine a_iconst dL_law_1038 ⟨by decide, by decide⟩ ?_
    refine a_iadd (z := (((i : Nat) : Int) + 1)) dL_law_1039 (w_ok (by omega) (by omega)) ?_
    refine a_sld (i + 1) dL_law_1040 (by omega) (by omega) ?_
    rw [ha1]
    refine a_aload_n (j := 0) dL_law_1041 rfl rfl (Nat.le_of_ble_eq_true rfl) ?_
    refine a_iload_n (j := 3) dL_law_1042 rfl rfl ?_
    refine a_iconst dL_law_1043 ⟨by decide, by decide⟩ ?_
    refine a_iadd (z := (((i : Nat) : Int) + 2)) dL_law_1044 (w_ok (by omega) (by omega)) ?_
    refine a_sld (i + 2) dL_law_1045 (by omega) (by omega) ?_
    rw [ha2]
    refine b_callV (d' := d - 1) (mc' := 0) (ms' := 0) (mc1 := mc) (ms1 := ms) (st := []) (b := 0) [vI a1, vI a2] dL_law_1046 mwX8_textTold lkL_123 (by decide) rfl rc_X8 rfl (Nat.le_of_ble_eq_true rfl) (by omega) (by omega) (by omega) (q_X8_textTold_n (N := N) (by omega) hR hX hin ?_)
    show Aj γ mL_law d mc ms Post 1049 [(0, vK 0), (1, vA 0), (2, vA 123), (3, vI ((i : Nat) : Int))] [vI (-1000000001)] (mk h τ)
    refine a_aload_n (j := 2) dL_law_1049 rfl rfl (Nat.le_of_ble_eq_true rfl) ?_
    refine a_aload_n (j := 0) dL_law_1050 rfl rfl (Nat.le_of_ble_eq_true rfl) ?_
    refine a_iload_n (j := 3) dL_law_1051 rfl rfl ?_
    refine a_iconst dL_law_1052 ⟨by decide, by decide⟩ ?_
    refine a_iadd (z := (((i : Nat) : Int) + 1)) dL_law_1053 (w_ok (by omega) (by omega)) ?_
    refine a_sld (i + 1) dL_law_1054 (by omega) (by omega) ?_
    rw [ha1]
    refine a_aload_n (j := 0) dL_law_1055 rfl rfl (Nat.le_of_ble_eq_true rfl) ?_
    refine a_iload_n (j := 3) dL_law_1056 rfl rfl ?_
    refine a_iconst dL_law_1057 ⟨by decide, by decide⟩ ?_
    refine a_iadd (z := (((i : Nat) : Int) + 2)) dL_law_1058 (w_ok (by omega) (by omega)) ?_
    refine a_sld (i + 2) dL_law_1059 (by omega) (by omega) ?_
    rw [ha2]
    refine b_callV (d' := d - 1) (mc' := 0) (ms' := 0) (mc1 := mc) (ms1 := ms) (st := [vI (-1000000001)]) (b := 123) [vI a1, vI a2] dL_law_1060 mwX9_textTold lkL_126 (by decide) rfl rc_X9 rfl (Nat.le_of_ble_eq_true rfl) (by omega) (by omega) (by omega) (c_X9_textTold (v1 := (N 6)) (v2 := (N (Int.toNat (173 + (2 * a1))))) (v3 := (N (Int.toNat ((173 + (2 * a1)) + 1)))) (by omega)  (congrFun hN _) (congrFun hN _) (congrFun hN _) (show 0 ≤ (N 6) ∧ (N 6) ≤ 14 by omega) (show Im a1 (N 6) (0 ≤ (N (Int.toNat (173 + (2 * a1)))) ∧ (N (Int.toNat (173 + (2 * a1)))) ≤ 2999) from fun _ _ => (by omega)) (fun t11_2_1 t20_3_1 c30_4_1 => ?_) (fun t11_2_1 t20_3_1 c30_4_1 => ?_) (fun t11_2_1 t20_3_1 => ?_) (fun t11_2_1 => ?_))
    · have t11_2_1 : 0 ≤ a1 ∧ a1 ≤ ((N 6) - 1) := t11_2_1
      have t20_3_1 : 0 ≤ a2 ∧ a2 ≤ 1 := t20_3_1
      have c30_4_1 : ¬ a2 = 0 := c30_4_1
      show Aj γ mL_law d mc ms Post 1063 [(0, vK 0), (1, vA 0), (2, vA 123), (3, vI ((i : Nat) : Int))] [vI (N (Int.toNat ((173 + (2 * a1)) + 1))), vI (-1000000001)] (mk h τ)
      refine a_icmp_eq (tgt := 1668) dL_law_1063 (by decide) (fun c1063_3 => ?_) (fun c1063_3 => ?_)
      · exact kE h N J (IV_up (by omega) hI)
      · refine a_iconst dL_law_1066 ⟨by decide, by decide⟩ ?_
        exact a_zret dL_law_1067 rfl (by first | exact Or.inl rfl | exact Or.inr rfl | omega) (by exfalso; omega)
    · have t11_2_1 : 0 ≤ a1 ∧ a1 ≤ ((N 6) - 1) := t11_2_1
      have t20_3_1 : 0 ≤ a2 ∧ a2 ≤ 1 := t20_3_1
      have c30_4_1 : a2 = 0 := c30_4_1
      show Aj γ mL_law d mc ms Post 1063 [(0, vK 0), (1, vA 0), (2, vA 123), (3, vI ((i : Nat) : Int))] [vI ((N (Int.toNat (173 + (2 * a1)))) / 1000), vI (-1000000001)] (mk h τ)
      refine a_icmp_eq (tgt := 1668) dL_law_1063 (by decide) (fun c1063_4 => ?_) (fun c1063_4 => ?_)
      · exact kE h N J (IV_up (by omega) hI)
      · refine a_iconst dL_law_1066 ⟨by decide, by decide⟩ ?_
        exact a_zret dL_law_1067 rfl (by first | exact Or.inl rfl | exact Or.inr rfl | omega) (by exfalso; omega)
    · have t11_2_1 : 0 ≤ a1 ∧ a1 ≤ ((N 6) - 1) := t11_2_1
      have t20_3_1 : ¬ (0 ≤ a2 ∧ a2 ≤ 1) := t20_3_1
      show Aj γ mL_law d mc ms Post 1063 [(0, vK 0), (1, vA 0), (2, vA 123), (3, vI ((i : Nat) : Int))] [vI (-1000000001), vI (-1000000001)] (mk h τ)
      refine a_icmp_eq (tgt := 1668) dL_law_1063 (by decide) (fun _ => ?_) (fun c => absurd c (by decide))
      exact kE h N J (IV_up (by omega) hI)
    · have t11_2_1 : ¬ (0 ≤ a1 ∧ a1 ≤ ((N 6) - 1)) := t11_2_1
      show Aj γ mL_law d mc ms Post 1063 [(0, vK 0), (1, vA 0), (2, vA 123), (3, vI ((i : Nat) : Int))] [vI (-1000000001), vI (-1000000001)] (mk h τ)
      refine a_icmp_eq (tgt := 1668) dL_law_1063 (by decide) (fun _ => ?_) (fun c => absurd c (by decide))
      exact kE h N J (IV_up (by omega) hI)
  · obtain ⟨t0, rfl⟩ : ∃ z : Nat, a1 = (z : Int) := ⟨Int.toNat a1, by omega⟩
    have y5 := hX.1.2.2.2.2.1 t0 (by omega)
    refine a_aload_n (j := 1) dL_law_1035 rfl rfl (Nat.le_of_ble_eq_true rfl) ?_
    refine a_aload_n (j := 0) dL_law_1036 rfl rfl (Nat.le_of_ble_eq_true rfl) ?_
    refine a_iload_n (j := 3) dL_law_1037 rfl rfl ?_
    refine a_iconst dL_law_1038 ⟨by decide, by decide⟩ ?_
    refine a_iadd (z := (((i : Nat) : Int) + 1)) dL_law_1039 (w_ok (by omega) (by omega)) ?_
    refine a_sld (i + 1) dL_law_1040 (by omega) (by omega) ?_
    rw [ha1]
    refine a_aload_n (j := 0) dL_law_1041 rfl rfl (Nat.le_of_ble_eq_true rfl) ?_
    refine a_iload_n (j := 3) dL_law_1042 rfl rfl ?_
    refine a_iconst dL_law_1043 ⟨by decide, by decide⟩ ?_
    refine a_iadd (z := (((i : Nat) : Int) + 2)) dL_law_1044 (w_ok (by omega) (by omega)) ?_
    refine a_sld (i + 2) dL_law_1045 (by omega) (by omega) ?_
    rw [ha2]
    refine b_callV (d' := d - 1) (mc' := 0) (ms' := 0) (mc1 := mc) (ms1 := ms) (st := []) (b := 0) [vI ((t0 : Nat) : Int), vI a2] dL_law_1046 mwX8_textTold lkL_123 (by decide) rfl rc_X8 rfl (Nat.le_of_ble_eq_true rfl) (by omega) (by omega) (by omega) (q_X8_textTold_v (N := N) (tn := t0) (by omega) hR hX (by omega) (fun hin2 => ?_) (fun hin2 => ?_) (fun hin2 => ?_))
    · show Aj γ mL_law d mc ms Post 1049 [(0, vK 0), (1, vA 0), (2, vA 123), (3, vI ((i : Nat) : Int))] [vI (-1000000001)] (mk h τ)
      refine a_aload_n (j := 2) dL_law_1049 rfl rfl (Nat.le_of_ble_eq_true rfl) ?_
      refine a_aload_n (j := 0) dL_law_1050 rfl rfl (Nat.le_of_ble_eq_true rfl) ?_
      refine a_iload_n (j := 3) dL_law_1051 rfl rfl ?_
      refine a_iconst dL_law_1052 ⟨by decide, by decide⟩ ?_
      refine a_iadd (z := (((i : Nat) : Int) + 1)) dL_law_1053 (w_ok (by omega) (by omega)) ?_
      refine a_sld (i + 1) dL_law_1054 (by omega) (by omega) ?_
      rw [ha1]
      refine a_aload_n (j := 0) dL_law_1055 rfl rfl (Nat.le_of_ble_eq_true rfl) ?_
      refine a_iload_n (j := 3) dL_law_1056 rfl rfl ?_
      refine a_iconst dL_law_1057 ⟨by decide, by decide⟩ ?_
      refine a_iadd (z := (((i : Nat) : Int) + 2)) dL_law_1058 (w_ok (by omega) (by omega)) ?_
      refine a_sld (i + 2) dL_law_1059 (by omega) (by omega) ?_
      rw [ha2]
      refine b_callV (d' := d - 1) (mc' := 0) (ms' := 0) (mc1 := mc) (ms1 := ms) (st := [vI (-1000000001)]) (b := 123) [vI ((t0 : Nat) : Int), vI a2] dL_law_1060 mwX9_textTold lkL_126 (by decide) rfl rc_X9 rfl (Nat.le_of_ble_eq_true rfl) (by omega) (by omega) (by omega) (c_X9_textTold (v1 := (N 6)) (v2 := (N (173 + 2 * t0))) (v3 := (N (174 + 2 * t0))) (by omega)  (congrFun hN _) ((congrArg (h 124) (show (Int.toNat (173 + (2 * ((t0 : Nat) : Int)))) = (173 + 2 * t0) by omega)).trans (congrFun hN _)) ((congrArg (h 124) (show (Int.toNat ((173 + (2 * ((t0 : Nat) : Int))) + 1)) = (174 + 2 * t0) by omega)).trans (congrFun hN _)) (show 0 ≤ (N 6) ∧ (N 6) ≤ 14 by omega) (show Im ((t0 : Nat) : Int) (N 6) (0 ≤ (N (173 + 2 * t0)) ∧ (N (173 + 2 * t0)) ≤ 2999) from fun _ _ => (by omega)) (fun t11_2_1 t20_3_1 c30_4_1 => ?_) (fun t11_2_1 t20_3_1 c30_4_1 => ?_) (fun t11_2_1 t20_3_1 => ?_) (fun t11_2_1 => ?_))
      · exfalso
        omega
      · exfalso
        omega
      · have t11_2_1 : 0 ≤ ((t0 : Nat) : Int) ∧ ((t0 : Nat) : Int) ≤ ((N 6) - 1) := t11_2_1
        have t20_3_1 : ¬ (0 ≤ a2 ∧ a2 ≤ 1) := t20_3_1
        show Aj γ mL_law d mc ms Post 1063 [(0, vK 0), (1, vA 0), (2, vA 123), (3, vI ((i : Nat) : Int))] [vI (-1000000001), vI (-1000000001)] (mk h τ)
        refine a_icmp_eq (tgt := 1668) dL_law_1063 (by decide) (fun _ => ?_) (fun c => absurd c (by decide))
        exact kE h N J (IV_up (by omega) hI)
      · have t11_2_1 : ¬ (0 ≤ ((t0 : Nat) : Int) ∧ ((t0 : Nat) : Int) ≤ ((N 6) - 1)) := t11_2_1
        show Aj γ mL_law d mc ms Post 1063 [(0, vK 0), (1, vA 0), (2, vA 123), (3, vI ((i : Nat) : Int))] [vI (-1000000001), vI (-1000000001)] (mk h τ)
        refine a_icmp_eq (tgt := 1668) dL_law_1063 (by decide) (fun _ => ?_) (fun c => absurd c (by decide))
        exact kE h N J (IV_up (by omega) hI)
    · show Aj γ mL_law d mc ms Post 1049 [(0, vK 0), (1, vA 0), (2, vA 123), (3, vI ((i : Nat) : Int))] [vI (N (173 + 2 * t0) / 1000)] (mk h τ)
      refine a_aload_n (j := 2) dL_law_1049 rfl rfl (Nat.le_of_ble_eq_true rfl) ?_
      refine a_aload_n (j := 0) dL_law_1050 rfl rfl (Nat.le_of_ble_eq_true rfl) ?_
      refine a_iload_n (j := 3) dL_law_1051 rfl rfl ?_
      refine a_iconst dL_law_1052 ⟨by decide, by decide⟩ ?_
      refine a_iadd (z := (((i : Nat) : Int) + 1)) dL_law_1053 (w_ok (by omega) (by omega)) ?_
      refine a_sld (i + 1) dL_law_1054 (by omega) (by omega) ?_
      rw [ha1]
      refine a_aload_n (j := 0) dL_law_1055 rfl rfl (Nat.le_of_ble_eq_true rfl) ?_
      refine a_iload_n (j := 3) dL_law_1056 rfl rfl ?_
      refine a_iconst dL_law_1057 ⟨by decide, by decide⟩ ?_
      refine a_iadd (z := (((i : Nat) : Int) + 2)) dL_law_1058 (w_ok (by omega) (by omega)) ?_
      refine a_sld (i + 2) dL_law_1059 (by omega) (by omega) ?_
      rw [ha2]
      refine b_callV (d' := d - 1) (mc' := 0) (ms' := 0) (mc1 := mc) (ms1 := ms) (st := [vI (N (173 + 2 * t0) / 1000)]) (b := 123) [vI ((t0 : Nat) : Int), vI a2] dL_law_1060 mwX9_textTold lkL_126 (by decide) rfl rc_X9 rfl (Nat.le_of_ble_eq_true rfl) (by omega) (by omega) (by omega) (c_X9_textTold (v1 := (N 6)) (v2 := (N (173 + 2 * t0))) (v3 := (N (174 + 2 * t0))) (by omega)  (congrFun hN _) ((congrArg (h 124) (show (Int.toNat (173 + (2 * ((t0 : Nat) : Int)))) = (173 + 2 * t0) by omega)).trans (congrFun hN _)) ((congrArg (h 124) (show (Int.toNat ((173 + (2 * ((t0 : Nat) : Int))) + 1)) = (174 + 2 * t0) by omega)).trans (congrFun hN _)) (show 0 ≤ (N 6) ∧ (N 6) ≤ 14 by omega) (show Im ((t0 : Nat) : Int) (N 6) (0 ≤ (N (173 + 2 * t0)) ∧ (N (173 + 2 * t0)) ≤ 2999) from fun _ _ => (by omega)) (fun t11_2_3 t20_3_3 c30_4_3 => ?_) (fun t11_2_3 t20_3_3 c30_4_3 => ?_) (fun t11_2_3 t20_3_3 => ?_) (fun t11_2_3 => ?_))
      · exfalso
        omega
      · have t11_2_3 : 0 ≤ ((t0 : Nat) : Int) ∧ ((t0 : Nat) : Int) ≤ ((N 6) - 1) := t11_2_3
        have t20_3_3 : 0 ≤ a2 ∧ a2 ≤ 1 := t20_3_3
        have c30_4_3 : a2 = 0 := c30_4_3
        show Aj γ mL_law d mc ms Post 1063 [(0, vK 0), (1, vA 0), (2, vA 123), (3, vI ((i : Nat) : Int))] [vI ((N (173 + 2 * t0)) / 1000), vI (N (173 + 2 * t0) / 1000)] (mk h τ)
        refine a_icmp_eq (tgt := 1668) dL_law_1063 (by decide) (fun c1063_5 => ?_) (fun c1063_5 => ?_)
        · exact kE h N J (IV_up (by omega) hI)
        · refine a_iconst dL_law_1066 ⟨by decide, by decide⟩ ?_
          exact a_zret dL_law_1067 rfl (by first | exact Or.inl rfl | exact Or.inr rfl | omega) (by exfalso; omega)
      · have t11_2_3 : 0 ≤ ((t0 : Nat) : Int) ∧ ((t0 : Nat) : Int) ≤ ((N 6) - 1) := t11_2_3
        have t20_3_3 : ¬ (0 ≤ a2 ∧ a2 ≤ 1) := t20_3_3
        show Aj γ mL_law d mc ms Post 1063 [(0, vK 0), (1, vA 0), (2, vA 123), (3, vI ((i : Nat) : Int))] [vI (-1000000001), vI (N (173 + 2 * t0) / 1000)] (mk h τ)
        refine a_icmp_eq (tgt := 1668) dL_law_1063 (by decide) (fun c1063_6 => ?_) (fun c1063_6 => ?_)
        · exact kE h N J (IV_up (by omega) hI)
        · refine a_iconst dL_law_1066 ⟨by decide, by decide⟩ ?_
          exact a_zret dL_law_1067 rfl (by first | exact Or.inl rfl | exact Or.inr rfl | omega) (by exfalso; omega)
      · have t11_2_3 : ¬ (0 ≤ ((t0 : Nat) : Int) ∧ ((t0 : Nat) : Int) ≤ ((N 6) - 1)) := t11_2_3
        show Aj γ mL_law d mc ms Post 1063 [(0, vK 0), (1, vA 0), (2, vA 123), (3, vI ((i : Nat) : Int))] [vI (-1000000001), vI (N (173 + 2 * t0) / 1000)] (mk h τ)
        refine a_icmp_eq (tgt := 1668) dL_law_1063 (by decide) (fun c1063_7 => ?_) (fun c1063_7 => ?_)
        · exact kE h N J (IV_up (by omega) hI)
        · refine a_iconst dL_law_1066 ⟨by decide, by decide⟩ ?_
          exact a_zret dL_law_1067 rfl (by first | exact Or.inl rfl | exact Or.inr rfl | omega) (by exfalso; omega)
    · show Aj γ mL_law d mc ms Post 1049 [(0, vK 0), (1, vA 0), (2, vA 123), (3, vI ((i : Nat) : Int))] [vI (N (173 + 2 * t0 + 1))] (mk h τ)
      have e74 : N (174 + 2 * t0) = N (173 + 2 * t0 + 1) := by rw [show 174 + 2 * t0 = 173 + 2 * t0 + 1 by omega]
      refine a_aload_n (j := 2) dL_law_1049 rfl rfl (Nat.le_of_ble_eq_true rfl) ?_
      refine a_aload_n (j := 0) dL_law_1050 rfl rfl (Nat.le_of_ble_eq_true rfl) ?_
      refine a_iload_n (j := 3) dL_law_1051 rfl rfl ?_
      refine a_iconst dL_law_1052 ⟨by decide, by decide⟩ ?_
      refine a_iadd (z := (((i : Nat) : Int) + 1)) dL_law_1053 (w_ok (by omega) (by omega)) ?_
      refine a_sld (i + 1) dL_law_1054 (by omega) (by omega) ?_
      rw [ha1]
      refine a_aload_n (j := 0) dL_law_1055 rfl rfl (Nat.le_of_ble_eq_true rfl) ?_
      refine a_iload_n (j := 3) dL_law_1056 rfl rfl ?_
      refine a_iconst dL_law_1057 ⟨by decide, by decide⟩ ?_
      refine a_iadd (z := (((i : Nat) : Int) + 2)) dL_law_1058 (w_ok (by omega) (by omega)) ?_
      refine a_sld (i + 2) dL_law_1059 (by omega) (by omega) ?_
      rw [ha2]
      refine b_callV (d' := d - 1) (mc' := 0) (ms' := 0) (mc1 := mc) (ms1 := ms) (st := [vI (N (173 + 2 * t0 + 1))]) (b := 123) [vI ((t0 : Nat) : Int), vI a2] dL_law_1060 mwX9_textTold lkL_126 (by decide) rfl rc_X9 rfl (Nat.le_of_ble_eq_true rfl) (by omega) (by omega) (by omega) (c_X9_textTold (v1 := (N 6)) (v2 := (N (173 + 2 * t0))) (v3 := (N (174 + 2 * t0))) (by omega)  (congrFun hN _) ((congrArg (h 124) (show (Int.toNat (173 + (2 * ((t0 : Nat) : Int)))) = (173 + 2 * t0) by omega)).trans (congrFun hN _)) ((congrArg (h 124) (show (Int.toNat ((173 + (2 * ((t0 : Nat) : Int))) + 1)) = (174 + 2 * t0) by omega)).trans (congrFun hN _)) (show 0 ≤ (N 6) ∧ (N 6) ≤ 14 by omega) (show Im ((t0 : Nat) : Int) (N 6) (0 ≤ (N (173 + 2 * t0)) ∧ (N (173 + 2 * t0)) ≤ 2999) from fun _ _ => (by omega)) (fun t11_2_8 t20_3_8 c30_4_8 => ?_) (fun t11_2_8 t20_3_8 c30_4_8 => ?_) (fun t11_2_8 t20_3_8 => ?_) (fun t11_2_8 => ?_))
      · have t11_2_8 : 0 ≤ ((t0 : Nat) : Int) ∧ ((t0 : Nat) : Int) ≤ ((N 6) - 1) := t11_2_8
        have t20_3_8 : 0 ≤ a2 ∧ a2 ≤ 1 := t20_3_8
        have c30_4_8 : ¬ a2 = 0 := c30_4_8
        show Aj γ mL_law d mc ms Post 1063 [(0, vK 0), (1, vA 0), (2, vA 123), (3, vI ((i : Nat) : Int))] [vI (N (174 + 2 * t0)), vI (N (173 + 2 * t0 + 1))] (mk h τ)
        refine a_icmp_eq (tgt := 1668) dL_law_1063 (by decide) (fun c1063_10 => ?_) (fun c1063_10 => ?_)
        · exact kE h N J (IV_up (by omega) hI)
        · refine a_iconst dL_law_1066 ⟨by decide, by decide⟩ ?_
          exact a_zret dL_law_1067 rfl (by first | exact Or.inl rfl | exact Or.inr rfl | omega) (by exfalso; omega)
      · exfalso
        omega
      · have t11_2_8 : 0 ≤ ((t0 : Nat) : Int) ∧ ((t0 : Nat) : Int) ≤ ((N 6) - 1) := t11_2_8
        have t20_3_8 : ¬ (0 ≤ a2 ∧ a2 ≤ 1) := t20_3_8
        show Aj γ mL_law d mc ms Post 1063 [(0, vK 0), (1, vA 0), (2, vA 123), (3, vI ((i : Nat) : Int))] [vI (-1000000001), vI (N (173 + 2 * t0 + 1))] (mk h τ)
        refine a_icmp_eq (tgt := 1668) dL_law_1063 (by decide) (fun c1063_11 => ?_) (fun c1063_11 => ?_)
        · exact kE h N J (IV_up (by omega) hI)
        · refine a_iconst dL_law_1066 ⟨by decide, by decide⟩ ?_
          exact a_zret dL_law_1067 rfl (by first | exact Or.inl rfl | exact Or.inr rfl | omega) (by exfalso; omega)
      · have t11_2_8 : ¬ (0 ≤ ((t0 : Nat) : Int) ∧ ((t0 : Nat) : Int) ≤ ((N 6) - 1)) := t11_2_8
        show Aj γ mL_law d mc ms Post 1063 [(0, vK 0), (1, vA 0), (2, vA 123), (3, vI ((i : Nat) : Int))] [vI (-1000000001), vI (N (173 + 2 * t0 + 1))] (mk h τ)
        refine a_icmp_eq (tgt := 1668) dL_law_1063 (by decide) (fun c1063_12 => ?_) (fun c1063_12 => ?_)
        · exact kE h N J (IV_up (by omega) hI)
        · refine a_iconst dL_law_1066 ⟨by decide, by decide⟩ ?_
          exact a_zret dL_law_1067 rfl (by first | exact Or.inl rfl | exact Or.inr rfl | omega) (by exfalso; omega)
