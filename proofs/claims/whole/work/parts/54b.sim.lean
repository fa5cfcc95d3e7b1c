set_option maxHeartbeats 16000000 in
theorem s_tell {γ : GT} {d mc ms n i : Nat} {N J : Nat → Int} {h : Nat → Nat → Int} {τ : List AC} {Post : Option AV → List AC → Prop} (hd : 30 ≤ d) (hn : n < 64) (hi : i + 5 < g_L γ) (hL : g_L γ ≤ 384) (hI : IVp n h τ N J) (kE : ∀ h' N' J', IVp (n + 1) h' τ N' J' → Aj γ mL_law d mc ms Post 1668 [(0, vK 0), (1, vA 0), (2, vA 123), (3, vI ((i : Nat) : Int))] [] (mk h' τ)) : Aj γ mL_law d mc ms Post 1573 [(0, vK 0), (1, vA 0), (2, vA 123), (3, vI ((i : Nat) : Int))] [] (mk h τ) := by
  obtain ⟨hN, hJ, hX, hR, hk, hkK, hC, hRC, hst, hO⟩ := id hI
  have hsc := hX.1.1
  have hs1 := hsc.1
  have hs2 := hsc.2.1
  have hs3 := hsc.2.2.1
  have hs4 := hsc.2.2.2.1
  have hs5 := hsc.2.2.2.2
  have hs6 := hX.1.2.2.2.1
  have hx7 := hX.2.1
  have hx8 := hX.2.2.2.1
  obtain ⟨a1, ha1⟩ : ∃ z, (g_x γ (i + 1)).toInt = z := ⟨_, rfl⟩
  have ra1 : inI a1 := ha1 ▸ i32_rng _
  unfold inI at ra1
  have hwt := hO.2.2.2.1.2.1
  obtain ⟨w0, hw0⟩ : ∃ z : Nat, h 123 44 = (z : Int) := ⟨Int.toNat (h 123 44), by omega⟩
  refine a_aload_n (j := 1) dL_law_1573 rfl rfl (Nat.le_of_ble_eq_true rfl) ?_
  refine a_aload_n (j := 0) dL_law_1574 rfl rfl (Nat.le_of_ble_eq_true rfl) ?_
  refine a_iload_n (j := 3) dL_law_1575 rfl rfl ?_
  refine a_iconst dL_law_1576 ⟨by decide, by decide⟩ ?_
  refine a_iadd (z := (((i : Nat) : Int) + 1)) dL_law_1577 (w_ok (by omega) (by omega)) ?_
  refine a_sld (i + 1) dL_law_1578 (by omega) (by omega) ?_
  rw [ha1]
  refine b_callV (d' := d - 1) (mc' := 0) (ms' := 0) (mc1 := mc) (ms1 := ms) (st := []) (b := 0) [vI a1] dL_law_1579 mwX8_tell lkL_188 (by decide) rfl rc_X8 rfl (Nat.le_of_ble_eq_true rfl) (by omega) (by omega) (by omega) (c_X8_tell (v1 := ((w0 : Nat) : Int)) (by omega)  (hO.2.2.2.1.1.trans hw0) (show 0 ≤ ((w0 : Nat) : Int) ∧ ((w0 : Nat) : Int) ≤ 60 by omega) (fun c6_1_1 => ?_) (fun c6_1_1 => ?_))
  · have c6_1_1 : ((w0 : Nat) : Int) < 60 := c6_1_1
    show Aj γ mL_law d mc ms Post 1582 [(0, vK 0), (1, vA 0), (2, vA 123), (3, vI ((i : Nat) : Int))] [vI (((w0 : Nat) : Int) + 1)] (mk (up2 (up2 h 89 w0 a1) 0 12 (((w0 : Nat) : Int) + 1)) τ)
    refine a_aload_n (j := 2) dL_law_1582 rfl rfl (Nat.le_of_ble_eq_true rfl) ?_
    refine a_aload_n (j := 0) dL_law_1583 rfl rfl (Nat.le_of_ble_eq_true rfl) ?_
    refine a_iload_n (j := 3) dL_law_1584 rfl rfl ?_
    refine a_iconst dL_law_1585 ⟨by decide, by decide⟩ ?_
    refine a_iadd (z := (((i : Nat) : Int) + 1)) dL_law_1586 (w_ok (by omega) (by omega)) ?_
    refine a_sld (i + 1) dL_law_1587 (by omega) (by omega) ?_
    rw [ha1]
    refine b_callV (d' := d - 1) (mc' := 0) (ms' := 0) (mc1 := mc) (ms1 := ms) (st := [vI (((w0 : Nat) : Int) + 1)]) (b := 123) [vI a1] dL_law_1588 mwX9_tell lkL_191 (by decide) rfl rc_X9 rfl (Nat.le_of_ble_eq_true rfl) (by omega) (by omega) (by omega) (c_X9_tell (v1 := ((w0 : Nat) : Int)) (by omega)  ((up2_ne (by omega)).trans ((up2_ne (by omega)).trans hw0)) (show 0 ≤ ((w0 : Nat) : Int) ∧ ((w0 : Nat) : Int) ≤ 60 by omega) (fun c6_1_3 => ?_) (fun c6_1_3 => ?_))
    · have c6_1_3 : ¬ ((w0 : Nat) : Int) = 60 := c6_1_3
      show Aj γ mL_law d mc ms Post 1591 [(0, vK 0), (1, vA 0), (2, vA 123), (3, vI ((i : Nat) : Int))] [vI (((w0 : Nat) : Int) + 1), vI (((w0 : Nat) : Int) + 1)] (mk (up2 (up2 (up2 (up2 h 89 w0 a1) 0 12 (((w0 : Nat) : Int) + 1)) 153 w0 a1) 123 44 (((w0 : Nat) : Int) + 1)) τ)
      refine a_icmp_eq (tgt := 1668) dL_law_1591 (by decide) (fun c1591_5 => ?_) (fun c1591_5 => ?_)
      · generalize hHH : (up2 (up2 (up2 (up2 h 89 w0 a1) 0 12 (((w0 : Nat) : Int) + 1)) 153 w0 a1) 123 44 (((w0 : Nat) : Int) + 1)) = H
        have gR : ∀ c, c ≠ 0 → c ≠ 89 → c ≠ 123 → c ≠ 153 → H c = h c := fun c q0_ q1_ q2_ q3_ => by rw [← hHH]; exact ((up2_row (by omega)).trans ((up2_row (by omega)).trans ((up2_row (by omega)).trans ((up2_row (by omega)).trans rfl))))
        have t1_ : H 84 1 = h 84 1 := by rw [← hHH]; exact ((up2_ne (by omega)).trans ((up2_ne (by omega)).trans ((up2_ne (by omega)).trans ((up2_ne (by omega)).trans rfl))))
        have t3_ : H 123 17 = h 123 17 := by rw [← hHH]; exact ((up2_ne (by omega)).trans ((up2_ne (by omega)).trans ((up2_ne (by omega)).trans ((up2_ne (by omega)).trans rfl))))
        have w0_ : H 0 12 = (((w0 : Nat) : Int) + 1) := by rw [← hHH]; exact ((up2_ne (by omega)).trans ((up2_ne (by omega)).trans (up2_hit (by omega) (by omega))))
        have w1_ : H 123 44 = (((w0 : Nat) : Int) + 1) := by rw [← hHH]; exact (up2_hit (by omega) (by omega))
        have v0_ : H 89 w0 = a1 := by rw [← hHH]; exact ((up2_ne (by omega)).trans ((up2_ne (by omega)).trans ((up2_ne (by omega)).trans (up2_hit (by omega) (by omega)))))
        have v1_ : H 153 w0 = a1 := by rw [← hHH]; exact ((up2_ne (by omega)).trans (up2_hit (by omega) (by omega)))
        have m0_ : ∀ k : Nat, k ≠ w0 → H 89 k = h 89 k := fun k q0_ => by rw [← hHH]; exact ((up2_ne (by omega)).trans ((up2_ne (by omega)).trans ((up2_ne (by omega)).trans ((up2_ne (by omega)).trans rfl))))
        have m1_ : ∀ k : Nat, k ≠ w0 → H 153 k = h 153 k := fun k q0_ => by rw [← hHH]; exact ((up2_ne (by omega)).trans ((up2_ne (by omega)).trans ((up2_ne (by omega)).trans ((up2_ne (by omega)).trans rfl))))
        have hWT : WTE H := ⟨w0_.trans w1_.symm, by rw [w1_]; omega, by funext k; by_cases q : k = w0; (rw [q, v0_, v1_]); (rw [m0_ k q, m1_ k q]; exact congrFun hO.2.2.2.1.2.2 k)⟩
        have g0 : ∀ k : Nat, k ≠ 12 → H 0 k = h 0 k := fun k q0_ => by rw [← hHH]; exact ((up2_ne (by omega)).trans ((up2_ne (by omega)).trans ((up2_ne (by omega)).trans ((up2_ne (by omega)).trans rfl))))
        have gF : ∀ c, ((1 ≤ c ∧ c < 84) ∨ (124 ≤ c ∧ c < 137)) → H c = h c := fun c q0_ => by rw [← hHH]; exact ((up2_row (by omega)).trans ((up2_row (by omega)).trans ((up2_row (by omega)).trans ((up2_row (by omega)).trans rfl))))
        have k3_ : H 123 3 = h 123 3 := by rw [← hHH]; exact ((up2_ne (by omega)).trans ((up2_ne (by omega)).trans ((up2_ne (by omega)).trans ((up2_ne (by omega)).trans rfl))))
        have k4_ : H 123 4 = h 123 4 := by rw [← hHH]; exact ((up2_ne (by omega)).trans ((up2_ne (by omega)).trans ((up2_ne (by omega)).trans ((up2_ne (by omega)).trans rfl))))
        have k9_ : H 123 9 = h 123 9 := by rw [← hHH]; exact ((up2_ne (by omega)).trans ((up2_ne (by omega)).trans ((up2_ne (by omega)).trans ((up2_ne (by omega)).trans rfl))))
        have g3 : ∀ k, k = 3 ∨ k = 4 ∨ k = 9 → H 123 k = h 123 k := fun k hk => by rcases hk with rfl | rfl | rfl; exact k3_; exact k4_; exact k9_
        exact kE H N J (IV_up (by omega) (IV_o hI gF g0 g3 ⟨TPE_fr t1_ (gR 85 (by decide) (by decide) (by decide) (by decide)) t3_ (gR 137 (by decide) (by decide) (by decide) (by decide)) hO.1, SHE_fr (fun c h1 h2 => gR c (by omega) (by omega) (by omega) (by omega)) (gR 145 (by decide) (by decide) (by decide) (by decide)) (gR 146 (by decide) (by decide) (by decide) (by decide)) (gR 147 (by decide) (by decide) (by decide) (by decide)) hO.2.1, SLE_fr (fun c h1 h2 => gR c (by omega) (by omega) (by omega) (by omega)) (gR 148 (by decide) (by decide) (by decide) (by decide)) (gR 149 (by decide) (by decide) (by decide) (by decide)) (gR 150 (by decide) (by decide) (by decide) (by decide)) (gR 151 (by decide) (by decide) (by decide) (by decide)) hO.2.2.1, hWT, CNE_fr (gR 138 (by decide) (by decide) (by decide) (by decide)) (gR 139 (by decide) (by decide) (by decide) (by decide)) hO.2.2.2.2⟩))
      · refine a_iconst dL_law_1594 ⟨by decide, by decide⟩ ?_
        exact a_zret dL_law_1595 rfl (by first | exact Or.inl rfl | exact Or.inr rfl | omega) (by exfalso; omega)
    · have c6_1_3 : ((w0 : Nat) : Int) = 60 := c6_1_3
      show Aj γ mL_law d mc ms Post 1591 [(0, vK 0), (1, vA 0), (2, vA 123), (3, vI ((i : Nat) : Int))] [vI (-1000000003), vI (((w0 : Nat) : Int) + 1)] (mk (up2 (up2 h 89 w0 a1) 0 12 (((w0 : Nat) : Int) + 1)) τ)
      refine a_icmp_eq (tgt := 1668) dL_law_1591 (by decide) (fun c1591_6 => ?_) (fun c1591_6 => ?_)
      · exfalso
        omega
      · refine a_iconst dL_law_1594 ⟨by decide, by decide⟩ ?_
        exact a_zret dL_law_1595 rfl (by first | exact Or.inl rfl | exact Or.inr rfl | omega) (by exfalso; omega)
  · have c6_1_1 : ¬ ((w0 : Nat) : Int) < 60 := c6_1_1
    show Aj γ mL_law d mc ms Post 1582 [(0, vK 0), (1, vA 0), (2, vA 123), (3, vI ((i : Nat) : Int))] [vI (-1000000003)] (mk h τ)
    refine a_aload_n (j := 2) dL_law_1582 rfl rfl (Nat.le_of_ble_eq_true rfl) ?_
    refine a_aload_n (j := 0) dL_law_1583 rfl rfl (Nat.le_of_ble_eq_true rfl) ?_
    refine a_iload_n (j := 3) dL_law_1584 rfl rfl ?_
    refine a_iconst dL_law_1585 ⟨by decide, by decide⟩ ?_
    refine a_iadd (z := (((i : Nat) : Int) + 1)) dL_law_1586 (w_ok (by omega) (by omega)) ?_
    refine a_sld (i + 1) dL_law_1587 (by omega) (by omega) ?_
    rw [ha1]
    refine b_callV (d' := d - 1) (mc' := 0) (ms' := 0) (mc1 := mc) (ms1 := ms) (st := [vI (-1000000003)]) (b := 123) [vI a1] dL_law_1588 mwX9_tell lkL_191 (by decide) rfl rc_X9 rfl (Nat.le_of_ble_eq_true rfl) (by omega) (by omega) (by omega) (c_X9_tell (v1 := ((w0 : Nat) : Int)) (by omega)  hw0 (show 0 ≤ ((w0 : Nat) : Int) ∧ ((w0 : Nat) : Int) ≤ 60 by omega) (fun c6_1_7 => ?_) (fun c6_1_7 => ?_))
    · have c6_1_7 : ¬ ((w0 : Nat) : Int) = 60 := c6_1_7
      show Aj γ mL_law d mc ms Post 1591 [(0, vK 0), (1, vA 0), (2, vA 123), (3, vI ((i : Nat) : Int))] [vI (((w0 : Nat) : Int) + 1), vI (-1000000003)] (mk (up2 (up2 h 153 w0 a1) 123 44 (((w0 : Nat) : Int) + 1)) τ)
      refine a_icmp_eq (tgt := 1668) dL_law_1591 (by decide) (fun c1591_9 => ?_) (fun c1591_9 => ?_)
      · exfalso
        omega
      · refine a_iconst dL_law_1594 ⟨by decide, by decide⟩ ?_
        exact a_zret dL_law_1595 rfl (by first | exact Or.inl rfl | exact Or.inr rfl | omega) (by exfalso; omega)
    · have c6_1_7 : ((w0 : Nat) : Int) = 60 := c6_1_7
      show Aj γ mL_law d mc ms Post 1591 [(0, vK 0), (1, vA 0), (2, vA 123), (3, vI ((i : Nat) : Int))] [vI (-1000000003), vI (-1000000003)] (mk h τ)
      refine a_icmp_eq (tgt := 1668) dL_law_1591 (by decide) (fun _ => ?_) (fun c => absurd c (by decide))
      exact kE h N J (IV_up (by omega) hI)
set_option maxHeartbeats 16000000 in
theorem s_trim {γ : GT} {d mc ms n i : Nat} {N J : Nat → Int} {h : Nat → Nat → Int} {τ : List AC} {Post : Option AV → List AC → Prop} (hd : 30 ≤ d) (hn : n < 64) (hi : i + 5 < g_L γ) (hL : g_L γ ≤ 384) (hI : IVp n h τ N J) (kE : ∀ h' N' J', IVp (n + 1) h' τ N' J' → Aj γ mL_law d mc ms Post 1668 [(0, vK 0), (1, vA 0), (2, vA 123), (3, vI ((i : Nat) : Int))] [] (mk h' τ)) : Aj γ mL_law d mc ms Post 999 [(0, vK 0), (1, vA 0), (2, vA 123), (3, vI ((i : Nat) : Int))] [] (mk h τ) := by
  obtain ⟨hN, hJ, hX, hR, hk, hkK, hC, hRC, hst, hO⟩ := id hI
  have hsc := hX.1.1
  have hs1 := hsc.1
  have hs2 := hsc.2.1
  have hs3 := hsc.2.2.1
  have hs4 := hsc.2.2.2.1
  have hs5 := hsc.2.2.2.2
  have hs6 := hX.1.2.2.2.1
  have hx7 := hX.2.1
  have hx8 := hX.2.2.2.1
  obtain ⟨a1, ha1⟩ : ∃ z, (g_x γ (i + 1)).toInt = z := ⟨_, rfl⟩
  have ra1 : inI a1 := ha1 ▸ i32_rng _
  unfold inI at ra1
  have htp := hO.1.2.1
  obtain ⟨p0, hp0⟩ : ∃ z : Nat, h 123 17 = (z : Int) := ⟨Int.toNat (h 123 17), by omega⟩
  refine a_aload_n (j := 1) dL_law_999 rfl rfl (Nat.le_of_ble_eq_true rfl) ?_
  refine a_aload_n (j := 0) dL_law_1000 rfl rfl (Nat.le_of_ble_eq_true rfl) ?_
  refine a_iload_n (j := 3) dL_law_1001 rfl rfl ?_
  refine a_iconst dL_law_1002 ⟨by decide, by decide⟩ ?_
  refine a_iadd (z := (((i : Nat) : Int) + 1)) dL_law_1003 (w_ok (by omega) (by omega)) ?_
  refine a_sld (i + 1) dL_law_1004 (by omega) (by omega) ?_
  rw [ha1]
  refine b_callV (d' := d - 1) (mc' := 0) (ms' := 0) (mc1 := mc) (ms1 := ms) (st := []) (b := 0) [vI a1] dL_law_1005 mwX8_trim lkL_115 (by decide) rfl rc_X8 rfl (Nat.le_of_ble_eq_true rfl) (by omega) (by omega) (by omega) (c_X8_trim (v1 := ((p0 : Nat) : Int)) (by omega)  (hO.1.1.trans hp0) (show 0 ≤ ((p0 : Nat) : Int) ∧ ((p0 : Nat) : Int) ≤ 96 by omega) (fun t9_1_1 => ?_) (fun t9_1_1 => ?_))
  · have t9_1_1 : 0 ≤ a1 ∧ a1 ≤ ((p0 : Nat) : Int) := t9_1_1
    show Aj γ mL_law d mc ms Post 1008 [(0, vK 0), (1, vA 0), (2, vA 123), (3, vI ((i : Nat) : Int))] [vI a1] (mk (up2 h 84 1 a1) τ)
    refine a_aload_n (j := 2) dL_law_1008 rfl rfl (Nat.le_of_ble_eq_true rfl) ?_
    refine a_aload_n (j := 0) dL_law_1009 rfl rfl (Nat.le_of_ble_eq_true rfl) ?_
    refine a_iload_n (j := 3) dL_law_1010 rfl rfl ?_
    refine a_iconst dL_law_1011 ⟨by decide, by decide⟩ ?_
    refine a_iadd (z := (((i : Nat) : Int) + 1)) dL_law_1012 (w_ok (by omega) (by omega)) ?_
    refine a_sld (i + 1) dL_law_1013 (by omega) (by omega) ?_
    rw [ha1]
    refine b_callV (d' := d - 1) (mc' := 0) (ms' := 0) (mc1 := mc) (ms1 := ms) (st := [vI a1]) (b := 123) [vI a1] dL_law_1014 mwX9_trim lkL_118 (by decide) rfl rc_X9 rfl (Nat.le_of_ble_eq_true rfl) (by omega) (by omega) (by omega) (c_X9_trim (v1 := ((p0 : Nat) : Int)) (by omega)  ((up2_ne (by omega)).trans hp0) (show 0 ≤ ((p0 : Nat) : Int) ∧ ((p0 : Nat) : Int) ≤ 96 by omega) (fun t6_1_3 => ?_) (fun t6_1_3 => ?_))
    · have t6_1_3 : 0 ≤ a1 ∧ a1 ≤ ((p0 : Nat) : Int) := t6_1_3
      show Aj γ mL_law d mc ms Post 1017 [(0, vK 0), (1, vA 0), (2, vA 123), (3, vI ((i : Nat) : Int))] [vI a1, vI a1] (mk (up2 (up2 h 84 1 a1) 123 17 a1) τ)
      refine a_icmp_eq (tgt := 1668) dL_law_1017 (by decide) (fun c1017_5 => ?_) (fun c1017_5 => ?_)
      · generalize hHH : (up2 (up2 h 84 1 a1) 123 17 a1) = H
        have gR : ∀ c, c ≠ 84 → c ≠ 123 → H c = h c := fun c q0_ q1_ => by rw [← hHH]; exact ((up2_row (by omega)).trans ((up2_row (by omega)).trans rfl))
        have t1_ : H 84 1 = a1 := by rw [← hHH]; exact ((up2_ne (by omega)).trans (up2_hit (by omega) (by omega)))
        have t3_ : H 123 17 = a1 := by rw [← hHH]; exact (up2_hit (by omega) (by omega))
        have hTP : TPE H := ⟨t1_.trans t3_.symm, by rw [t3_]; omega, fun k hk => by rw [t3_] at hk; rw [(gR 85 (by decide) (by decide)), (gR 137 (by decide) (by decide))]; exact hO.1.2.2 k (by omega)⟩
        have w0_ : H 0 12 = h 0 12 := by rw [← hHH]; exact ((up2_ne (by omega)).trans ((up2_ne (by omega)).trans rfl))
        have w1_ : H 123 44 = h 123 44 := by rw [← hHH]; exact ((up2_ne (by omega)).trans ((up2_ne (by omega)).trans rfl))
        have g0 : ∀ k : Nat, k ≠ 12 → H 0 k = h 0 k := fun k q0_ => by rw [← hHH]; exact ((up2_ne (by omega)).trans ((up2_ne (by omega)).trans rfl))
        have gF : ∀ c, ((1 ≤ c ∧ c < 84) ∨ (124 ≤ c ∧ c < 137)) → H c = h c := fun c q0_ => by rw [← hHH]; exact ((up2_row (by omega)).trans ((up2_row (by omega)).trans rfl))
        have k3_ : H 123 3 = h 123 3 := by rw [← hHH]; exact ((up2_ne (by omega)).trans ((up2_ne (by omega)).trans rfl))
        have k4_ : H 123 4 = h 123 4 := by rw [← hHH]; exact ((up2_ne (by omega)).trans ((up2_ne (by omega)).trans rfl))
        have k9_ : H 123 9 = h 123 9 := by rw [← hHH]; exact ((up2_ne (by omega)).trans ((up2_ne (by omega)).trans rfl))
        have g3 : ∀ k, k = 3 ∨ k = 4 ∨ k = 9 → H 123 k = h 123 k := fun k hk => by rcases hk with rfl | rfl | rfl; exact k3_; exact k4_; exact k9_
        exact kE H N J (IV_up (by omega) (IV_o hI gF g0 g3 ⟨hTP, SHE_fr (fun c h1 h2 => gR c (by omega) (by omega)) (gR 145 (by decide) (by decide)) (gR 146 (by decide) (by decide)) (gR 147 (by decide) (by decide)) hO.2.1, SLE_fr (fun c h1 h2 => gR c (by omega) (by omega)) (gR 148 (by decide) (by decide)) (gR 149 (by decide) (by decide)) (gR 150 (by decide) (by decide)) (gR 151 (by decide) (by decide)) hO.2.2.1, WTE_fr w0_ w1_ (gR 89 (by decide) (by decide)) (gR 153 (by decide) (by decide)) hO.2.2.2.1, CNE_fr (gR 138 (by decide) (by decide)) (gR 139 (by decide) (by decide)) hO.2.2.2.2⟩))
      · refine a_iconst dL_law_1020 ⟨by decide, by decide⟩ ?_
        exact a_zret dL_law_1021 rfl (by first | exact Or.inl rfl | exact Or.inr rfl | omega) (by exfalso; omega)
    · exfalso
      omega
  · have t9_1_1 : ¬ (0 ≤ a1 ∧ a1 ≤ ((p0 : Nat) : Int)) := t9_1_1
    show Aj γ mL_law d mc ms Post 1008 [(0, vK 0), (1, vA 0), (2, vA 123), (3, vI ((i : Nat) : Int))] [vI (-1000000001)] (mk h τ)
    refine a_aload_n (j := 2) dL_law_1008 rfl rfl (Nat.le_of_ble_eq_true rfl) ?_
    refine a_aload_n (j := 0) dL_law_1009 rfl rfl (Nat.le_of_ble_eq_true rfl) ?_
    refine a_iload_n (j := 3) dL_law_1010 rfl rfl ?_
    refine a_iconst dL_law_1011 ⟨by decide, by decide⟩ ?_
    refine a_iadd (z := (((i : Nat) : Int) + 1)) dL_law_1012 (w_ok (by omega) (by omega)) ?_
    refine a_sld (i + 1) dL_law_1013 (by omega) (by omega) ?_
    rw [ha1]
    refine b_callV (d' := d - 1) (mc' := 0) (ms' := 0) (mc1 := mc) (ms1 := ms) (st := [vI (-1000000001)]) (b := 123) [vI a1] dL_law_1014 mwX9_trim lkL_118 (by decide) rfl rc_X9 rfl (Nat.le_of_ble_eq_true rfl) (by omega) (by omega) (by omega) (c_X9_trim (v1 := ((p0 : Nat) : Int)) (by omega)  hp0 (show 0 ≤ ((p0 : Nat) : Int) ∧ ((p0 : Nat) : Int) ≤ 96 by omega) (fun t6_1_6 => ?_) (fun t6_1_6 => ?_))
    · exfalso
      omega
    · have t6_1_6 : ¬ (0 ≤ a1 ∧ a1 ≤ ((p0 : Nat) : Int)) := t6_1_6
      show Aj γ mL_law d mc ms Post 1017 [(0, vK 0), (1, vA 0), (2, vA 123), (3, vI ((i : Nat) : Int))] [vI (-1000000001), vI (-1000000001)] (mk h τ)
      refine a_icmp_eq (tgt := 1668) dL_law_1017 (by decide) (fun _ => ?_) (fun c => absurd c (by decide))
      exact kE h N J (IV_up (by omega) hI)
