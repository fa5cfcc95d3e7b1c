set_option maxHeartbeats 16000000 in
theorem s_count {γ : GT} {d mc ms n i : Nat} {N J : Nat → Int} {h : Nat → Nat → Int} {τ : List AC} {Post : Option AV → List AC → Prop} (hd : 30 ≤ d) (hn : n < 64) (hi : i + 5 < g_L γ) (hL : g_L γ ≤ 384) (hI : IVp n h τ N J) (kE : ∀ h' N' J', IVp (n + 1) h' τ N' J' → Aj γ mL_law d mc ms Post 1668 [(0, vK 0), (1, vA 0), (2, vA 123), (3, vI ((i : Nat) : Int))] [] (mk h' τ)) : Aj γ mL_law d mc ms Post 1645 [(0, vK 0), (1, vA 0), (2, vA 123), (3, vI ((i : Nat) : Int))] [] (mk h τ) := by
  obtain ⟨hN, hJ, hX, hR, hk, hkK, hC, hRC, hst, hO⟩ := id hI
  have hsc := hX.1.1
  have hs1 := hsc.1
  have hs2 := hsc.2.1
  have hs3 := hsc.2.2.1
  have hs4 := hsc.2.2.2.1
  have hs5 := hsc.2.2.2.2
  have hs6 := hX.1.2.2.2.1
  have hx7 := hX.2.1
  have hx8 := hX.2.2.2.1
  obtain ⟨a1, ha1⟩ : ∃ z, (g_x γ (i + 1)).toInt = z := ⟨_, rfl⟩
  have ra1 : inI a1 := ha1 ▸ i32_rng _
  unfold inI at ra1
  refine a_aload_n (j := 1) dL_law_1645 rfl rfl (Nat.le_of_ble_eq_true rfl) ?_
  refine a_aload_n (j := 0) dL_law_1646 rfl rfl (Nat.le_of_ble_eq_true rfl) ?_
  refine a_iload_n (j := 3) dL_law_1647 rfl rfl ?_
  refine a_iconst dL_law_1648 ⟨by decide, by decide⟩ ?_
  refine a_iadd (z := (((i : Nat) : Int) + 1)) dL_law_1649 (w_ok (by omega) (by omega)) ?_
  refine a_sld (i + 1) dL_law_1650 (by omega) (by omega) ?_
  rw [ha1]
  refine b_callV (d' := d - 1) (mc' := 0) (ms' := 0) (mc1 := mc) (ms1 := ms) (st := []) (b := 0) [vI a1] dL_law_1651 mwX8_count lkL_204 (by decide) rfl rc_X8 rfl (Nat.le_of_ble_eq_true rfl) (by omega) (by omega) (by omega) (c_X8_count (v1 := (N 4)) (v2 := (N 5)) (v3 := (N 6)) (v4 := (N 7)) (v5 := (N 8)) (v6 := (N 2)) (v7 := (N 3)) (v8 := (N 1)) (v9 := (h 123 44)) (v10 := (h 123 17)) (v11 := (N 0)) (by omega)  hR.1.1 hR.1.2.1 hR.1.2.2.1 hR.1.2.2.2.1 hR.1.2.2.2.2.2.2.2.1 hR.1.2.2.2.2.1 hR.1.2.2.2.2.2.1 hR.1.2.2.2.2.2.2.1 hO.2.2.2.1.1 hO.1.1 hR.1.2.2.2.2.2.2.2.2  (fun c1_1_1 => ?_) (fun c1_1_1 => ?_) (fun c1_1_1 => ?_) (fun c1_1_1 => ?_) (fun c1_1_1 => ?_) (fun c1_1_1 => ?_) (fun c1_1_1 => ?_) (fun c1_1_1 => ?_) (fun c1_1_1 => ?_) (fun c1_1_1 => ?_) (fun c1_1_1 => ?_) (fun c1_1_1 => ?_))
  · have c1_1_1 : a1 = 0 := c1_1_1
    show Aj γ mL_law d mc ms Post 1654 [(0, vK 0), (1, vA 0), (2, vA 123), (3, vI ((i : Nat) : Int))] [vI (N 4)] (mk h τ)
    refine a_aload_n (j := 2) dL_law_1654 rfl rfl (Nat.le_of_ble_eq_true rfl) ?_
    refine a_aload_n (j := 0) dL_law_1655 rfl rfl (Nat.le_of_ble_eq_true rfl) ?_
    refine a_iload_n (j := 3) dL_law_1656 rfl rfl ?_
    refine a_iconst dL_law_1657 ⟨by decide, by decide⟩ ?_
    refine a_iadd (z := (((i : Nat) : Int) + 1)) dL_law_1658 (w_ok (by omega) (by omega)) ?_
    refine a_sld (i + 1) dL_law_1659 (by omega) (by omega) ?_
    rw [ha1]
    refine b_callV (d' := d - 1) (mc' := 0) (ms' := 0) (mc1 := mc) (ms1 := ms) (st := [vI (N 4)]) (b := 123) [vI a1] dL_law_1660 mwX9_count lkL_207 (by decide) rfl rc_X9 rfl (Nat.le_of_ble_eq_true rfl) (by omega) (by omega) (by omega) (c_X9_count (v1 := (N 4)) (v2 := (N 5)) (v3 := (N 6)) (v4 := (N 7)) (v5 := (N 8)) (v6 := (N 2)) (v7 := (N 3)) (v8 := (N 1)) (v9 := (h 123 44)) (v10 := (h 123 17)) (v11 := (N 0)) (by omega)  (congrFun hN _) (congrFun hN _) (congrFun hN _) (congrFun hN _) (congrFun hN _) (congrFun hN _) (congrFun hN _) (congrFun hN _) rfl rfl (congrFun hN _)  (fun c1_1_3 => ?_) (fun c1_1_3 => ?_) (fun c1_1_3 => ?_) (fun c1_1_3 => ?_) (fun c1_1_3 => ?_) (fun c1_1_3 => ?_) (fun c1_1_3 => ?_) (fun c1_1_3 => ?_) (fun c1_1_3 => ?_) (fun c1_1_3 => ?_) (fun c1_1_3 => ?_) (fun c1_1_3 => ?_))
    · have c1_1_3 : a1 = 0 := c1_1_3
      show Aj γ mL_law d mc ms Post 1663 [(0, vK 0), (1, vA 0), (2, vA 123), (3, vI ((i : Nat) : Int))] [vI (N 4), vI (N 4)] (mk h τ)
      refine a_icmp_eq (tgt := 1668) dL_law_1663 (by decide) (fun c1663_5 => ?_) (fun c1663_5 => ?_)
      · exact kE h N J (IV_up (by omega) hI)
      · refine a_iconst dL_law_1666 ⟨by decide, by decide⟩ ?_
        exact a_zret dL_law_1667 rfl (by first | exact Or.inl rfl | exact Or.inr rfl | omega) (by exfalso; omega)
    · exfalso
      omega
    · exfalso
      omega
    · exfalso
      omega
    · exfalso
      omega
    · exfalso
      omega
    · exfalso
      omega
    · exfalso
      omega
    · exfalso
      omega
    · exfalso
      omega
    · exfalso
      omega
    · exfalso
      omega
  · have c1_1_1 : a1 = 1 := c1_1_1
    show Aj γ mL_law d mc ms Post 1654 [(0, vK 0), (1, vA 0), (2, vA 123), (3, vI ((i : Nat) : Int))] [vI (N 5)] (mk h τ)
    refine a_aload_n (j := 2) dL_law_1654 rfl rfl (Nat.le_of_ble_eq_true rfl) ?_
    refine a_aload_n (j := 0) dL_law_1655 rfl rfl (Nat.le_of_ble_eq_true rfl) ?_
    refine a_iload_n (j := 3) dL_law_1656 rfl rfl ?_
    refine a_iconst dL_law_1657 ⟨by decide, by decide⟩ ?_
    refine a_iadd (z := (((i : Nat) : Int) + 1)) dL_law_1658 (w_ok (by omega) (by omega)) ?_
    refine a_sld (i + 1) dL_law_1659 (by omega) (by omega) ?_
    rw [ha1]
    refine b_callV (d' := d - 1) (mc' := 0) (ms' := 0) (mc1 := mc) (ms1 := ms) (st := [vI (N 5)]) (b := 123) [vI a1] dL_law_1660 mwX9_count lkL_207 (by decide) rfl rc_X9 rfl (Nat.le_of_ble_eq_true rfl) (by omega) (by omega) (by omega) (c_X9_count (v1 := (N 4)) (v2 := (N 5)) (v3 := (N 6)) (v4 := (N 7)) (v5 := (N 8)) (v6 := (N 2)) (v7 := (N 3)) (v8 := (N 1)) (v9 := (h 123 44)) (v10 := (h 123 17)) (v11 := (N 0)) (by omega)  (congrFun hN _) (congrFun hN _) (congrFun hN _) (congrFun hN _) (congrFun hN _) (congrFun hN _) (congrFun hN _) (congrFun hN _) rfl rfl (congrFun hN _)  (fun c1_1_6 => ?_) (fun c1_1_6 => ?_) (fun c1_1_6 => ?_) (fun c1_1_6 => ?_) (fun c1_1_6 => ?_) (fun c1_1_6 => ?_) (fun c1_1_6 => ?_) (fun c1_1_6 => ?_) (fun c1_1_6 => ?_) (fun c1_1_6 => ?_) (fun c1_1_6 => ?_) (fun c1_1_6 => ?_))
    · exfalso
      omega
    · have c1_1_6 : a1 = 1 := c1_1_6
      show Aj γ mL_law d mc ms Post 1663 [(0, vK 0), (1, vA 0), (2, vA 123), (3, vI ((i : Nat) : Int))] [vI (N 5), vI (N 5)] (mk h τ)
      refine a_icmp_eq (tgt := 1668) dL_law_1663 (by decide) (fun c1663_8 => ?_) (fun c1663_8 => ?_)
      · exact kE h N J (IV_up (by omega) hI)
      · refine a_iconst dL_law_1666 ⟨by decide, by decide⟩ ?_
        exact a_zret dL_law_1667 rfl (by first | exact Or.inl rfl | exact Or.inr rfl | omega) (by exfalso; omega)
    · exfalso
      omega
    · exfalso
      omega
    · exfalso
      omega
    · exfalso
      omega
    · exfalso
      omega
    · exfalso
      omega
    · exfalso
      omega
    · exfalso
      omega
    · exfalso
      omega
    · exfalso
      omega
  · have c1_1_1 : a1 = 2 := c1_1_1
    show Aj γ mL_law d mc ms Post 1654 [(0, vK 0), (1, vA 0), (2, vA 123), (3, vI ((i : Nat) : Int))] [vI (N 6)] (mk h τ)
    refine a_aload_n (j := 2) dL_law_1654 rfl rfl (Nat.le_of_ble_eq_true rfl) ?_
    refine a_aload_n (j := 0) dL_law_1655 rfl rfl (Nat.le_of_ble_eq_true rfl) ?_
    refine a_iload_n (j := 3) dL_law_1656 rfl rfl ?_
    refine a_iconst dL_law_1657 ⟨by decide, by decide⟩ ?_
    refine a_iadd (z := (((i : Nat) : Int) + 1)) dL_law_1658 (w_ok (by omega) (by omega)) ?_
    refine a_sld (i + 1) dL_law_1659 (by omega) (by omega) ?_
    rw [ha1]
    refine b_callV (d' := d - 1) (mc' := 0) (ms' := 0) (mc1 := mc) (ms1 := ms) (st := [vI (N 6)]) (b := 123) [vI a1] dL_law_1660 mwX9_count lkL_207 (by decide) rfl rc_X9 rfl (Nat.le_of_ble_eq_true rfl) (by omega) (by omega) (by omega) (c_X9_count (v1 := (N 4)) (v2 := (N 5)) (v3 := (N 6)) (v4 := (N 7)) (v5 := (N 8)) (v6 := (N 2)) (v7 := (N 3)) (v8 := (N 1)) (v9 := (h 123 44)) (v10 := (h 123 17)) (v11 := (N 0)) (by omega)  (congrFun hN _) (congrFun hN _) (congrFun hN _) (congrFun hN _) (congrFun hN _) (congrFun hN _) (congrFun hN _) (congrFun hN _) rfl rfl (congrFun hN _)  (fun c1_1_9 => ?_) (fun c1_1_9 => ?_) (fun c1_1_9 => ?_) (fun c1_1_9 => ?_) (fun c1_1_9 => ?_) (fun c1_1_9 => ?_) (fun c1_1_9 => ?_) (fun c1_1_9 => ?_) (fun c1_1_9 => ?_) (fun c1_1_9 => ?_) (fun c1_1_9 => ?_) (fun c1_1_9 => ?_))
    · exfalso
      omega
    · exfalso
      omega
    · have c1_1_9 : a1 = 2 := c1_1_9
      show Aj γ mL_law d mc ms Post 1663 [(0, vK 0), (1, vA 0), (2, vA 123), (3, vI ((i : Nat) : Int))] [vI (N 6), vI (N 6)] (mk h τ)
      refine a_icmp_eq (tgt := 1668) dL_law_1663 (by decide) (fun c1663_11 => ?_) (fun c1663_11 => ?_)
      · exact kE h N J (IV_up (by omega) hI)
      · refine a_iconst dL_law_1666 ⟨by decide, by decide⟩ ?_
        exact a_zret dL_law_1667 rfl (by first | exact Or.inl rfl | exact Or.inr rfl | omega) (by exfalso; omega)
    · exfalso
      omega
    · exfalso
      omega
    · exfalso
      omega
    · exfalso
      omega
    · exfalso
      omega
    · exfalso
      omega
    · exfalso
      omega
    · exfalso
      omega
    · exfalso
      omega
  · have c1_1_1 : a1 = 3 := c1_1_1
    show Aj γ mL_law d mc ms Post 1654 [(0, vK 0), (1, vA 0), (2, vA 123), (3, vI ((i : Nat) : Int))] [vI (N 7)] (mk h τ)
    refine a_aload_n (j := 2) dL_law_1654 rfl rfl (Nat.le_of_ble_eq_true rfl) ?_
    refine a_aload_n (j := 0) dL_law_1655 rfl rfl (Nat.le_of_ble_eq_true rfl) ?_
    refine a_iload_n (j := 3) dL_law_1656 rfl rfl ?_
    refine a_iconst dL_law_1657 ⟨by decide, by decide⟩ ?_
    refine a_iadd (z := (((i : Nat) : Int) + 1)) dL_law_1658 (w_ok (by omega) (by omega)) ?_
    refine a_sld (i + 1) dL_law_1659 (by omega) (by omega) ?_
    rw [ha1]
    refine b_callV (d' := d - 1) (mc' := 0) (ms' := 0) (mc1 := mc) (ms1 := ms) (st := [vI (N 7)]) (b := 123) [vI a1] dL_law_1660 mwX9_count lkL_207 (by decide) rfl rc_X9 rfl (Nat.le_of_ble_eq_true rfl) (by omega) (by omega) (by omega) (c_X9_count (v1 := (N 4)) (v2 := (N 5)) (v3 := (N 6)) (v4 := (N 7)) (v5 := (N 8)) (v6 := (N 2)) (v7 := (N 3)) (v8 := (N 1)) (v9 := (h 123 44)) (v10 := (h 123 17)) (v11 := (N 0)) (by omega)  (congrFun hN _) (congrFun hN _) (congrFun hN _) (congrFun hN _) (congrFun hN _) (congrFun hN _) (congrFun hN _) (congrFun hN _) rfl rfl (congrFun hN _)  (fun c1_1_12 => ?_) (fun c1_1_12 => ?_) (fun c1_1_12 => ?_) (fun c1_1_12 => ?_) (fun c1_1_12 => ?_) (fun c1_1_12 => ?_) (fun c1_1_12 => ?_) (fun c1_1_12 => ?_) (fun c1_1_12 => ?_) (fun c1_1_12 => ?_) (fun c1_1_12 => ?_) (fun c1_1_12 => ?_))
    · exfalso
      omega
    · exfalso
      omega
    · exfalso
      omega
    · have c1_1_12 : a1 = 3 := c1_1_12
      show Aj γ mL_law d mc ms Post 1663 [(0, vK 0), (1, vA 0), (2, vA 123), (3, vI ((i : Nat) : Int))] [vI (N 7), vI (N 7)] (mk h τ)
      refine a_icmp_eq (tgt := 1668) dL_law_1663 (by decide) (fun c1663_14 => ?_) (fun c1663_14 => ?_)
      · exact kE h N J (IV_up (by omega) hI)
      · refine a_iconst dL_law_1666 ⟨by decide, by decide⟩ ?_
        exact a_zret dL_law_1667 rfl (by first | exact Or.inl rfl | exact Or.inr rfl | omega) (by exfalso; omega)
    · exfalso
      omega
    · exfalso
      omega
    · exfalso
      omega
    · exfalso
      omega
    · exfalso
      omega
    · exfalso
      omega
    · exfalso
      omega
    · exfalso
      omega
  · have c1_1_1 : a1 = 4 := c1_1_1
    show Aj γ mL_law d mc ms Post 1654 [(0, vK 0), (1, vA 0), (2, vA 123), (3, vI ((i : Nat) : Int))] [vI (N 8)] (mk h τ)
    refine a_aload_n (j := 2) dL_law_1654 rfl rfl (Nat.le_of_ble_eq_true rfl) ?_
    refine a_aload_n (j := 0) dL_law_1655 rfl rfl (Nat.le_of_ble_eq_true rfl) ?_
    refine a_iload_n (j := 3) dL_law_1656 rfl rfl ?_
    refine a_iconst dL_law_1657 ⟨by decide, by decide⟩ ?_
    refine a_iadd (z := (((i : Nat) : Int) + 1)) dL_law_1658 (w_ok (by omega) (by omega)) ?_
    refine a_sld (i + 1) dL_law_1659 (by omega) (by omega) ?_
    rw [ha1]
    refine b_callV (d' := d - 1) (mc' := 0) (ms' := 0) (mc1 := mc) (ms1 := ms) (st := [vI (N 8)]) (b := 123) [vI a1] dL_law_1660 mwX9_count lkL_207 (by decide) rfl rc_X9 rfl (Nat.le_of_ble_eq_true rfl) (by omega) (by omega) (by omega) (c_X9_count (v1 := (N 4)) (v2 := (N 5)) (v3 := (N 6)) (v4 := (N 7)) (v5 := (N 8)) (v6 := (N 2)) (v7 := (N 3)) (v8 := (N 1)) (v9 := (h 123 44)) (v10 := (h 123 17)) (v11 := (N 0)) (by omega)  (congrFun hN _) (congrFun hN _) (congrFun hN _) (congrFun hN _) (congrFun hN _) (congrFun hN _) (congrFun hN _) (congrFun hN _) rfl rfl (congrFun hN _)  (fun c1_1_15 => ?_) (fun c1_1_15 => ?_) (fun c1_1_15 => ?_) (fun c1_1_15 => ?_) (fun c1_1_15 => ?_) (fun c1_1_15 => ?_) (fun c1_1_15 => ?_) (fun c1_1_15 => ?_) (fun c1_1_15 => ?_) (fun c1_1_15 => ?_) (fun c1_1_15 => ?_) (fun c1_1_15 => ?_))
    · exfalso
      omega
    · exfalso
      omega
    · exfalso
      omega
    · exfalso
      omega
    · have c1_1_15 : a1 = 4 := c1_1_15
      show Aj γ mL_law d mc ms Post 1663 [(0, vK 0), (1, vA 0), (2, vA 123), (3, vI ((i : Nat) : Int))] [vI (N 8), vI (N 8)] (mk h τ)
      refine a_icmp_eq (tgt := 1668) dL_law_1663 (by decide) (fun c1663_17 => ?_) (fun c1663_17 => ?_)
      · exact kE h N J (IV_up (by omega) hI)
      · refine a_iconst dL_law_1666 ⟨by decide, by decide⟩ ?_
        exact a_zret dL_law_1667 rfl (by first | exact Or.inl rfl | exact Or.inr rfl | omega) (by exfalso; omega)
    · exfalso
      omega
    · exfalso
      omega
    · exfalso
      omega
    · exfalso
      omega
    · exfalso
      omega
    · exfalso
      omega
    · exfalso
      omega
  · have c1_1_1 : a1 = 5 := c1_1_1
    show Aj γ mL_law d mc ms Post 1654 [(0, vK 0), (1, vA 0), (2, vA 123), (3, vI ((i : Nat) : Int))] [vI (N 2)] (mk h τ)
    refine a_aload_n (j := 2) dL_law_1654 rfl rfl (Nat.le_of_ble_eq_true rfl) ?_
    refine a_aload_n (j := 0) dL_law_1655 rfl rfl (Nat.le_of_ble_eq_true rfl) ?_
    refine a_iload_n (j := 3) dL_law_1656 rfl rfl ?_
    refine a_iconst dL_law_1657 ⟨by decide, by decide⟩ ?_
    refine a_iadd (z := (((i : Nat) : Int) + 1)) dL_law_1658 (w_ok (by omega) (by omega)) ?_
    refine a_sld (i + 1) dL_law_1659 (by omega) (by omega) ?_
    rw [ha1]
    refine b_callV (d' := d - 1) (mc' := 0) (ms' := 0) (mc1 := mc) (ms1 := ms) (st := [vI (N 2)]) (b := 123) [vI a1] dL_law_1660 mwX9_count lkL_207 (by decide) rfl rc_X9 rfl (Nat.le_of_ble_eq_true rfl) (by omega) (by omega) (by omega) (c_X9_count (v1 := (N 4)) (v2 := (N 5)) (v3 := (N 6)) (v4 := (N 7)) (v5 := (N 8)) (v6 := (N 2)) (v7 := (N 3)) (v8 := (N 1)) (v9 := (h 123 44)) (v10 := (h 123 17)) (v11 := (N 0)) (by omega)  (congrFun hN _) (congrFun hN _) (congrFun hN _) (congrFun hN _) (congrFun hN _) (congrFun hN _) (congrFun hN _) (congrFun hN _) rfl rfl (congrFun hN _)  (fun c1_1_18 => ?_) (fun c1_1_18 => ?_) (fun c1_1_18 => ?_) (fun c1_1_18 => ?_) (fun c1_1_18 => ?_) (fun c1_1_18 => ?_) (fun c1_1_18 => ?_) (fun c1_1_18 => ?_) (fun c1_1_18 => ?_) (fun c1_1_18 => ?_) (fun c1_1_18 => ?_) (fun c1_1_18 => ?_))
    · exfalso
      omega
    · exfalso
      omega
    · exfalso
      omega
    · exfalso
      omega
    · exfalso
      omega
    · have c1_1_18 : a1 = 5 := c1_1_18
      show Aj γ mL_law d mc ms Post 1663 [(0, vK 0), (1, vA 0), (2, vA 123), (3, vI ((i : Nat) : Int))] [vI (N 2), vI (N 2)] (mk h τ)
      refine a_icmp_eq (tgt := 1668) dL_law_1663 (by decide) (fun c1663_20 => ?_) (fun c1663_20 => ?_)
      · exact kE h N J (IV_up (by omega) hI)
      · refine a_iconst dL_law_1666 ⟨by decide, by decide⟩ ?_
        exact a_zret dL_law_1667 rfl (by first | exact Or.inl rfl | exact Or.inr rfl | omega) (by exfalso; omega)
    · exfalso
      omega
    · exfalso
      omega
    · exfalso
      omega
    · exfalso
      omega
    · exfalso
      omega
    · exfalso
      omega
  · have c1_1_1 : a1 = 6 := c1_1_1
    show Aj γ mL_law d mc ms Post 1654 [(0, vK 0), (1, vA 0), (2, vA 123), (3, vI ((i : Nat) : Int))] [vI (N 3)] (mk h τ)
    refine a_aload_n (j := 2) dL_law_1654 rfl rfl (Nat.le_of_ble_eq_true rfl) ?_
    refine a_aload_n (j := 0) dL_law_1655 rfl rfl (Nat.le_of_ble_eq_true rfl) ?_
    refine a_iload_n (j := 3) dL_law_1656 rfl rfl ?_
    refine a_iconst dL_law_1657 ⟨by decide, by decide⟩ ?_
    refine a_iadd (z := (((i : Nat) : Int) + 1)) dL_law_1658 (w_ok (by omega) (by omega)) ?_
    refine a_sld (i + 1) dL_law_1659 (by omega) (by omega) ?_
    rw [ha1]
    refine b_callV (d' := d - 1) (mc' := 0) (ms' := 0) (mc1 := mc) (ms1 := ms) (st := [vI (N 3)]) (b := 123) [vI a1] dL_law_1660 mwX9_count lkL_207 (by decide) rfl rc_X9 rfl (Nat.le_of_ble_eq_true rfl) (by omega) (by omega) (by omega) (c_X9_count (v1 := (N 4)) (v2 := (N 5)) (v3 := (N 6)) (v4 := (N 7)) (v5 := (N 8)) (v6 := (N 2)) (v7 := (N 3)) (v8 := (N 1)) (v9 := (h 123 44)) (v10 := (h 123 17)) (v11 := (N 0)) (by omega)  (congrFun hN _) (congrFun hN _) (congrFun hN _) (congrFun hN _) (congrFun hN _) (congrFun hN _) (congrFun hN _) (congrFun hN _) rfl rfl (congrFun hN _)  (fun c1_1_21 => ?_) (fun c1_1_21 => ?_) (fun c1_1_21 => ?_) (fun c1_1_21 => ?_) (fun c1_1_21 => ?_) (fun c1_1_21 => ?_) (fun c1_1_21 => ?_) (fun c1_1_21 => ?_) (fun c1_1_21 => ?_) (fun c1_1_21 => ?_) (fun c1_1_21 => ?_) (fun c1_1_21 => ?_))
    · exfalso
      omega
    · exfalso
      omega
    · exfalso
      omega
    · exfalso
      omega
    · exfalso
      omega
    · exfalso
      omega
    · have c1_1_21 : a1 = 6 := c1_1_21
      show Aj γ mL_law d mc ms Post 1663 [(0, vK 0), (1, vA 0), (2, vA 123), (3, vI ((i : Nat) : Int))] [vI (N 3), vI (N 3)] (mk h τ)
      refine a_icmp_eq (tgt := 1668) dL_law_1663 (by decide) (fun c1663_23 => ?_) (fun c1663_23 => ?_)
      · exact kE h N J (IV_up (by omega) hI)
      · refine a_iconst dL_law_1666 ⟨by decide, by decide⟩ ?_
        exact a_zret dL_law_1667 rfl (by first | exact Or.inl rfl | exact Or.inr rfl | omega) (by exfalso; omega)
    · exfalso
      omega
    · exfalso
      omega
    · exfalso
      omega
    · exfalso
      omega
    · exfalso
      omega
  · have c1_1_1 : a1 = 7 := c1_1_1
    show Aj γ mL_law d mc ms Post 1654 [(0, vK 0), (1, vA 0), (2, vA 123), (3, vI ((i : Nat) : Int))] [vI (N 1)] (mk h τ)
    refine a_aload_n (j := 2) dL_law_1654 rfl rfl (Nat.le_of_ble_eq_true rfl) ?_
    refine a_aload_n (j := 0) dL_law_1655 rfl rfl (Nat.le_of_ble_eq_true rfl) ?_
    refine a_iload_n (j := 3) dL_law_1656 rfl rfl ?_
    refine a_iconst dL_law_1657 ⟨by decide, by decide⟩ ?_
    refine a_iadd (z := (((i : Nat) : Int) + 1)) dL_law_1658 (w_ok (by omega) (by omega)) ?_
    refine a_sld (i + 1) dL_law_1659 (by omega) (by omega) ?_
    rw [ha1]
    refine b_callV (d' := d - 1) (mc' := 0) (ms' := 0) (mc1 := mc) (ms1 := ms) (st := [vI (N 1)]) (b := 123) [vI a1] dL_law_1660 mwX9_count lkL_207 (by decide) rfl rc_X9 rfl (Nat.le_of_ble_eq_true rfl) (by omega) (by omega) (by omega) (c_X9_count (v1 := (N 4)) (v2 := (N 5)) (v3 := (N 6)) (v4 := (N 7)) (v5 := (N 8)) (v6 := (N 2)) (v7 := (N 3)) (v8 := (N 1)) (v9 := (h 123 44)) (v10 := (h 123 17)) (v11 := (N 0)) (by omega)  (congrFun hN _) (congrFun hN _) (congrFun hN _) (congrFun hN _) (congrFun hN _) (congrFun hN _) (congrFun hN _) (congrFun hN _) rfl rfl (congrFun hN _)  (fun c1_1_24 => ?_) (fun c1_1_24 => ?_) (fun c1_1_24 => ?_) (fun c1_1_24 => ?_) (fun c1_1_24 => ?_) (fun c1_1_24 => ?_) (fun c1_1_24 => ?_) (fun c1_1_24 => ?_) (fun c1_1_24 => ?_) (fun c1_1_24 => ?_) (fun c1_1_24 => ?_) (fun c1_1_24 => ?_))
    · exfalso
      omega
    · exfalso
      omega
    · exfalso
      omega
    · exfalso
      omega
    · exfalso
      omega
    · exfalso
      omega
    · exfalso
      omega
    · have c1_1_24 : a1 = 7 := c1_1_24
      show Aj γ mL_law d mc ms Post 1663 [(0, vK 0), (1, vA 0), (2, vA 123), (3, vI ((i : Nat) : Int))] [vI (N 1), vI (N 1)] (mk h τ)
      refine a_icmp_eq (tgt := 1668) dL_law_1663 (by decide) (fun c1663_26 => ?_) (fun c1663_26 => ?_)
      · exact kE h N J (IV_up (by omega) hI)
      · refine a_iconst dL_law_1666 ⟨by decide, by decide⟩ ?_
        exact a_zret dL_law_1667 rfl (by first | exact Or.inl rfl | exact Or.inr rfl | omega) (by exfalso; omega)
    · exfalso
      omega
    · exfalso
      omega
    · exfalso
      omega
    · exfalso
      omega
  · have c1_1_1 : a1 = 8 := c1_1_1
    show Aj γ mL_law d mc ms Post 1654 [(0, vK 0), (1, vA 0), (2, vA 123), (3, vI ((i : Nat) : Int))] [vI (h 123 44)] (mk h τ)
    refine a_aload_n (j := 2) dL_law_1654 rfl rfl (Nat.le_of_ble_eq_true rfl) ?_
    refine a_aload_n (j := 0) dL_law_1655 rfl rfl (Nat.le_of_ble_eq_true rfl) ?_
    refine a_iload_n (j := 3) dL_law_1656 rfl rfl ?_
    refine a_iconst dL_law_1657 ⟨by decide, by decide⟩ ?_
    refine a_iadd (z := (((i : Nat) : Int) + 1)) dL_law_1658 (w_ok (by omega) (by omega)) ?_
    refine a_sld (i + 1) dL_law_1659 (by omega) (by omega) ?_
    rw [ha1]
    refine b_callV (d' := d - 1) (mc' := 0) (ms' := 0) (mc1 := mc) (ms1 := ms) (st := [vI (h 123 44)]) (b := 123) [vI a1] dL_law_1660 mwX9_count lkL_207 (by decide) rfl rc_X9 rfl (Nat.le_of_ble_eq_true rfl) (by omega) (by omega) (by omega) (c_X9_count (v1 := (N 4)) (v2 := (N 5)) (v3 := (N 6)) (v4 := (N 7)) (v5 := (N 8)) (v6 := (N 2)) (v7 := (N 3)) (v8 := (N 1)) (v9 := (h 123 44)) (v10 := (h 123 17)) (v11 := (N 0)) (by omega)  (congrFun hN _) (congrFun hN _) (congrFun hN _) (congrFun hN _) (congrFun hN _) (congrFun hN _) (congrFun hN _) (congrFun hN _) rfl rfl (congrFun hN _)  (fun c1_1_27 => ?_) (fun c1_1_27 => ?_) (fun c1_1_27 => ?_) (fun c1_1_27 => ?_) (fun c1_1_27 => ?_) (fun c1_1_27 => ?_) (fun c1_1_27 => ?_) (fun c1_1_27 => ?_) (fun c1_1_27 => ?_) (fun c1_1_27 => ?_) (fun c1_1_27 => ?_) (fun c1_1_27 => ?_))
    · exfalso
      omega
    · exfalso
      omega
    · exfalso
      omega
    · exfalso
      omega
    · exfalso
      omega
    · exfalso
      omega
    · exfalso
      omega
    · exfalso
      omega
    · have c1_1_27 : a1 = 8 := c1_1_27
      show Aj γ mL_law d mc ms Post 1663 [(0, vK 0), (1, vA 0), (2, vA 123), (3, vI ((i : Nat) : Int))] [vI (h 123 44), vI (h 123 44)] (mk h τ)
      refine a_icmp_eq (tgt := 1668) dL_law_1663 (by decide) (fun c1663_29 => ?_) (fun c1663_29 => ?_)
      · exact kE h N J (IV_up (by omega) hI)
      · refine a_iconst dL_law_1666 ⟨by decide, by decide⟩ ?_
        exact a_zret dL_law_1667 rfl (by first | exact Or.inl rfl | exact Or.inr rfl | omega) (by exfalso; omega)
    · exfalso
      omega
    · exfalso
      omega
    · exfalso
      omega
  · have c1_1_1 : a1 = 9 := c1_1_1
    show Aj γ mL_law d mc ms Post 1654 [(0, vK 0), (1, vA 0), (2, vA 123), (3, vI ((i : Nat) : Int))] [vI (h 123 17)] (mk h τ)
    refine a_aload_n (j := 2) dL_law_1654 rfl rfl (Nat.le_of_ble_eq_true rfl) ?_
    refine a_aload_n (j := 0) dL_law_1655 rfl rfl (Nat.le_of_ble_eq_true rfl) ?_
    refine a_iload_n (j := 3) dL_law_1656 rfl rfl ?_
    refine a_iconst dL_law_1657 ⟨by decide, by decide⟩ ?_
    refine a_iadd (z := (((i : Nat) : Int) + 1)) dL_law_1658 (w_ok (by omega) (by omega)) ?_
    refine a_sld (i + 1) dL_law_1659 (by omega) (by omega) ?_
    rw [ha1]
    refine b_callV (d' := d - 1) (mc' := 0) (ms' := 0) (mc1 := mc) (ms1 := ms) (st := [vI (h 123 17)]) (b := 123) [vI a1] dL_law_1660 mwX9_count lkL_207 (by decide) rfl rc_X9 rfl (Nat.le_of_ble_eq_true rfl) (by omega) (by omega) (by omega) (c_X9_count (v1 := (N 4)) (v2 := (N 5)) (v3 := (N 6)) (v4 := (N 7)) (v5 := (N 8)) (v6 := (N 2)) (v7 := (N 3)) (v8 := (N 1)) (v9 := (h 123 44)) (v10 := (h 123 17)) (v11 := (N 0)) (by omega)  (congrFun hN _) (congrFun hN _) (congrFun hN _) (congrFun hN _) (congrFun hN _) (congrFun hN _) (congrFun hN _) (congrFun hN _) rfl rfl (congrFun hN _)  (fun c1_1_30 => ?_) (fun c1_1_30 => ?_) (fun c1_1_30 => ?_) (fun c1_1_30 => ?_) (fun c1_1_30 => ?_) (fun c1_1_30 => ?_) (fun c1_1_30 => ?_) (fun c1_1_30 => ?_) (fun c1_1_30 => ?_) (fun c1_1_30 => ?_) (fun c1_1_30 => ?_) (fun c1_1_30 => ?_))
    · exfalso
      omega
    · exfalso
      omega
    · exfalso
      omega
    · exfalso
      omega
    · exfalso
      omega
    · exfalso
      omega
    · exfalso
      omega
    · exfalso
      omega
    · exfalso
      omega
    · have c1_1_30 : a1 = 9 := c1_1_30
      show Aj γ mL_law d mc ms Post 1663 [(0, vK 0), (1, vA 0), (2, vA 123), (3, vI ((i : Nat) : Int))] [vI (h 123 17), vI (h 123 17)] (mk h τ)
      refine a_icmp_eq (tgt := 1668) dL_law_1663 (by decide) (fun c1663_32 => ?_) (fun c1663_32 => ?_)
      · exact kE h N J (IV_up (by omega) hI)
      · refine a_iconst dL_law_1666 ⟨by decide, by decide⟩ ?_
        exact a_zret dL_law_1667 rfl (by first | exact Or.inl rfl | exact Or.inr rfl | omega) (by exfalso; omega)
    · exfalso
      omega
    · exfalso
      omega
  · have c1_1_1 : a1 = 10 := c1_1_1
    show Aj γ mL_law d mc ms Post 1654 [(0, vK 0), (1, vA 0), (2, vA 123), (3, vI ((i : Nat) : Int))] [vI (N 0)] (mk h τ)
    refine a_aload_n (j := 2) dL_law_1654 rfl rfl (Nat.le_of_ble_eq_true rfl) ?_
    refine a_aload_n (j := 0) dL_law_1655 rfl rfl (Nat.le_of_ble_eq_true rfl) ?_
    refine a_iload_n (j := 3) dL_law_1656 rfl rfl ?_
    refine a_iconst dL_law_1657 ⟨by decide, by decide⟩ ?_
    refine a_iadd (z := (((i : Nat) : Int) + 1)) dL_law_1658 (w_ok (by omega) (by omega)) ?_
    refine a_sld (i + 1) dL_law_1659 (by omega) (by omega) ?_
    rw [ha1]
    refine b_callV (d' := d - 1) (mc' := 0) (ms' := 0) (mc1 := mc) (ms1 := ms) (st := [vI (N 0)]) (b := 123) [vI a1] dL_law_1660 mwX9_count lkL_207 (by decide) rfl rc_X9 rfl (Nat.le_of_ble_eq_true rfl) (by omega) (by omega) (by omega) (c_X9_count (v1 := (N 4)) (v2 := (N 5)) (v3 := (N 6)) (v4 := (N 7)) (v5 := (N 8)) (v6 := (N 2)) (v7 := (N 3)) (v8 := (N 1)) (v9 := (h 123 44)) (v10 := (h 123 17)) (v11 := (N 0)) (by omega)  (congrFun hN _) (congrFun hN _) (congrFun hN _) (congrFun hN _) (congrFun hN _) (congrFun hN _) (congrFun hN _) (congrFun hN _) rfl rfl (congrFun hN _)  (fun c1_1_33 => ?_) (fun c1_1_33 => ?_) (fun c1_1_33 => ?_) (fun c1_1_33 => ?_) (fun c1_1_33 => ?_) (fun c1_1_33 => ?_) (fun c1_1_33 => ?_) (fun c1_1_33 => ?_) (fun c1_1_33 => ?_) (fun c1_1_33 => ?_) (fun c1_1_33 => ?_) (fun c1_1_33 => ?_))
    · exfalso
      omega
    · exfalso
      omega
    · exfalso
      omega
    · exfalso
      omega
    · exfalso
      omega
    · exfalso
      omega
    · exfalso
      omega
    · exfalso
      omega
    · exfalso
      omega
    · exfalso
      omega
    · have c1_1_33 : a1 = 10 := c1_1_33
      show Aj γ mL_law d mc ms Post 1663 [(0, vK 0), (1, vA 0), (2, vA 123), (3, vI ((i : Nat) : Int))] [vI (N 0), vI (N 0)] (mk h τ)
      refine a_icmp_eq (tgt := 1668) dL_law_1663 (by decide) (fun c1663_35 => ?_) (fun c1663_35 => ?_)
      · exact kE h N J (IV_up (by omega) hI)
      · refine a_iconst dL_law_1666 ⟨by decide, by decide⟩ ?_
        exact a_zret dL_law_1667 rfl (by first | exact Or.inl rfl | exact Or.inr rfl | omega) (by exfalso; omega)
    · exfalso
      omega
  · have c1_1_1 : ¬ a1 = 0 ∧ ¬ a1 = 1 ∧ ¬ a1 = 2 ∧ ¬ a1 = 3 ∧ ¬ a1 = 4 ∧ ¬ a1 = 5 ∧ ¬ a1 = 6 ∧ ¬ a1 = 7 ∧ ¬ a1 = 8 ∧ ¬ a1 = 9 ∧ ¬ a1 = 10 := c1_1_1
    show Aj γ mL_law d mc ms Post 1654 [(0, vK 0), (1, vA 0), (2, vA 123), (3, vI ((i : Nat) : Int))] [vI (-1000000001)] (mk h τ)
    refine a_aload_n (j := 2) dL_law_1654 rfl rfl (Nat.le_of_ble_eq_true rfl) ?_
    refine a_aload_n (j := 0) dL_law_1655 rfl rfl (Nat.le_of_ble_eq_true rfl) ?_
    refine a_iload_n (j := 3) dL_law_1656 rfl rfl ?_
    refine a_iconst dL_law_1657 ⟨by decide, by decide⟩ ?_
    refine a_iadd (z := (((i : Nat) : Int) + 1)) dL_law_1658 (w_ok (by omega) (by omega)) ?_
    refine a_sld (i + 1) dL_law_1659 (by omega) (by omega) ?_
    rw [ha1]
    refine b_callV (d' := d - 1) (mc' := 0) (ms' := 0) (mc1 := mc) (ms1 := ms) (st := [vI (-1000000001)]) (b := 123) [vI a1] dL_law_1660 mwX9_count lkL_207 (by decide) rfl rc_X9 rfl (Nat.le_of_ble_eq_true rfl) (by omega) (by omega) (by omega) (c_X9_count (v1 := (N 4)) (v2 := (N 5)) (v3 := (N 6)) (v4 := (N 7)) (v5 := (N 8)) (v6 := (N 2)) (v7 := (N 3)) (v8 := (N 1)) (v9 := (h 123 44)) (v10 := (h 123 17)) (v11 := (N 0)) (by omega)  (congrFun hN _) (congrFun hN _) (congrFun hN _) (congrFun hN _) (congrFun hN _) (congrFun hN _) (congrFun hN _) (congrFun hN _) rfl rfl (congrFun hN _)  (fun c1_1_36 => ?_) (fun c1_1_36 => ?_) (fun c1_1_36 => ?_) (fun c1_1_36 => ?_) (fun c1_1_36 => ?_) (fun c1_1_36 => ?_) (fun c1_1_36 => ?_) (fun c1_1_36 => ?_) (fun c1_1_36 => ?_) (fun c1_1_36 => ?_) (fun c1_1_36 => ?_) (fun c1_1_36 => ?_))
    · exfalso
      omega
    · exfalso
      omega
    · exfalso
      omega
    · exfalso
      omega
    · exfalso
      omega
    · exfalso
      omega
    · exfalso
      omega
    · exfalso
      omega
    · exfalso
      omega
    · exfalso
      omega
    · exfalso
      omega
    · have c1_1_36 : ¬ a1 = 0 ∧ ¬ a1 = 1 ∧ ¬ a1 = 2 ∧ ¬ a1 = 3 ∧ ¬ a1 = 4 ∧ ¬ a1 = 5 ∧ ¬ a1 = 6 ∧ ¬ a1 = 7 ∧ ¬ a1 = 8 ∧ ¬ a1 = 9 ∧ ¬ a1 = 10 := c1_1_36
      show Aj γ mL_law d mc ms Post 1663 [(0, vK 0), (1, vA 0), (2, vA 123), (3, vI ((i : Nat) : Int))] [vI (-1000000001), vI (-1000000001)] (mk h τ)
      refine a_icmp_eq (tgt := 1668) dL_law_1663 (by decide) (fun _ => ?_) (fun c => absurd c (by decide))
      exact kE h N J (IV_up (by omega) hI)
