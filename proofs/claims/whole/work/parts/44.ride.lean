theorem NX_e {N N' : Nat → Int} (h : NX N) (e : ∀ k, k ≠ 0 → N' k = N k) : NX N' := by
  have q : ∀ k, N' (k + 1) = N (k + 1) := fun k => e _ (by omega)
  obtain ⟨⟨⟨a1, a2, a3, a4, a5⟩, b, c, d1, d2, d3⟩, f, g, i, j⟩ := h
  refine ⟨⟨⟨?_, ?_, ?_, ?_, ?_⟩, ?_, ?_, ?_, ?_, ?_⟩, ?_, ?_, ?_, ?_⟩
  · rw [e 1 (by decide)]; exact a1
  · rw [e 2 (by decide)]; exact a2
  · rw [e 3 (by decide)]; exact a3
  · rw [e 4 (by decide)]; exact a4
  · rw [e 5 (by decide)]; exact a5
  · intro s hs; rw [e _ (by omega)]; exact b s hs
  · intro t ht
    rw [e 5 (by decide)] at ht
    have q1 := c t ht
    unfold trR
    rw [e 4 (by decide), e (15 + 11 * t) (by omega), e (16 + 11 * t) (by omega), e (17 + 11 * t) (by omega), e (18 + 11 * t) (by omega), e (19 + 11 * t) (by omega), e (20 + 11 * t) (by omega), e (21 + 11 * t) (by omega), e (22 + 11 * t) (by omega), e (22 + 11 * t + 1) (by omega), e (22 + 11 * t + 2) (by omega), e (22 + 11 * t + 3) (by omega)]
    exact q1
  · rw [e 6 (by decide)]; exact d1
  · intro t ht; rw [e _ (by omega)]; exact d2 t ht
  · intro t ht
    rw [e 6 (by decide)] at ht
    have q1 := d3 t ht
    have ec : cdN N' t = cdN N t := by funext k; exact e _ (by omega)
    have el : lnN N' t = lnN N t := by unfold lnN; rw [e _ (by omega)]
    rw [e _ (by omega), ec, el]
    exact q1
  · rw [e 7 (by decide)]; exact f
  · intro k hk; rw [e 7 (by decide)] at hk; rw [e _ (by omega), e 5 (by decide)]; exact g k hk
  · rw [e 8 (by decide)]; exact i
  · intro k hk; rw [e 8 (by decide)] at hk; rw [e (153 + 2 * k) (by omega), e (153 + 2 * k + 1) (by omega), e 4 (by decide)]; exact j k hk
theorem tt_e {N N' : Nat → Int} (h : NX N) (e : ∀ k, k ≠ 0 → N' k = N k) : tt N' = tt N := VE_tt h.1 (fun k _ hk _ _ _ => (e k hk).symm)
theorem RC_e {h : Nat → Nat → Int} {N N' : Nat → Int} (e : tt N' = tt N) (hC : RC h N) : RC h N' := by
  unfold RC; rw [e]; exact hC
theorem RC_k {h h' : Nat → Nat → Int} {N : Nat → Int} (e : ∀ k, k ≠ 34 → h' 123 k = h 123 k) (q : ∀ c, c ∈ [127, 128, 129, 130, 133, 134, 135, 136] → h' c = h c) (hC : RC h N) : RC h' N := by
  unfold RC KA KN CW dlB
  rw [e 4 (by decide), e 9 (by decide), q 127 (by decide), q 128 (by decide), q 129 (by decide), q 130 (by decide), q 133 (by decide), q 134 (by decide), q 135 (by decide), q 136 (by decide)]
  exact hC
set_option maxHeartbeats 8000000 in
theorem l_rides {γ : GT} {d : Nat} {T : Nat → Nat → Int} {s0 m0 lo : Int} {R : Int × Int × Int} {h : Nat → Nat → Int} {τ : List AC} {Post : Option AV → List AC → Prop} (hd : 3 ≤ d) (hT : tOK T) (hRT : RT h T) (hC : CWf h T lo) (kQ : ∀ h' e c' z', (e, c', z') = R → Fr [123, 124] h h' → (∀ k, k ≠ 0 → h' 124 k = h 124 k) → h' 124 0 = z' → (∀ k, k ≠ 34 → h' 123 k = h 123 k) → h' 123 34 = c' → Post (some (vI e)) (mk h' τ)) :
    ∀ (f : Nat) (s m z c : Int) (h1 : Nat → Nat → Int), 0 ≤ s ∧ s < T 0 3 → 0 ≤ m ∧ m ≤ 5000 → lo ≤ m → 1600 ≤ m + f → 0 ≤ c → c + f ≤ 1600 → Fr [123, 124] h h1 → (∀ k, k ≠ 0 → h1 124 k = h 124 k) → h1 124 0 = z → (∀ k, k ≠ 34 → h1 123 k = h 123 k) → h1 123 34 = c → R = RDF T f s m z c → Aj γ mX9_rides d 0 0 Post 24 [(5, vI (TK T s m)), (3, vI s), (4, vI m), (0, vA 123), (1, vI s0), (2, vI m0)] [] (mk h1 τ) := by
  intro f
  induction f with
  | zero =>
    intro s m z c h1 hs hm hlo hmf hc0 hcf hF i24 iz i23 i34 hR
    have h2_ := hT.2.2.1
    have h3_ := hT.2.2.2.1
    have hdr := dr_rng z
    have hTK := TK_rng hT s m
    have hRT1 : RT h1 T := RT_z hT i24 (hF 127 (by decide)) (hF 128 (by decide)) (hF 129 (by decide)) (hF 130 (by decide)) hRT
    have hC1 : CWf h1 T lo := CWf_fr (hF 133 (by decide)) (hF 134 (by decide)) (hF 135 (by decide)) (hF 136 (by decide)) hC
    have hlate := TK_late hT (s := s) (m := m) (by omega)
    refine a_iload (j := 0) dX9_rides_24 rfl ?_
    refine a_if_lt (tgt := 75) dX9_rides_26 (by decide) (fun c26_1 => ?_) (fun c26_1 => ?_)
    · refine a_iload_n (j := 1) dX9_rides_75 rfl rfl ?_
      refine a_aload_n (j := 3) dX9_rides_76 rfl rfl (Nat.le_of_ble_eq_true rfl) ?_
      refine b_getp (a := 123) (p := 124) dX9_rides_77 fwX9_9 (by decide) rfl (by decide) rfl rfl ?_
      refine a_iconst dX9_rides_80 ⟨by decide, by decide⟩ ?_
      refine b_iaload (a := 124) (z := T 0 0) 2 dX9_rides_81 (by decide) rfl rfl (by decide) rfl hRT1.1.1.1 (fun r81_2 => ?_)
      refine a_icmp_ne (tgt := 90) dX9_rides_82 (by decide) (fun c82_3 => ?_) (fun c82_3 => ?_)
      · refine a_sipush dX9_rides_90 ⟨by decide, by decide, by decide⟩ ?_
        exact a_iret dX9_rides_93 rfl (kQ h1 2880 c z (by rw [hR, RDF_0 (by omega), if_neg (by omega)]) hF i24 iz i23 i34)
      · refine a_iload (j := 2) dX9_rides_85 rfl ?_
        refine a_goto (tgt := 93) dX9_rides_87 (by decide) ?_
        exact a_iret dX9_rides_93 rfl (kQ h1 m c z (by rw [hR, RDF_0 (by omega), if_pos (by omega)]) hF i24 iz i23 i34)
    · exfalso
      omega
  | succ f ih =>
    intro s m z c h1 hs hm hlo hmf hc0 hcf hF i24 iz i23 i34 hR
    have h2_ := hT.2.2.1
    have h3_ := hT.2.2.2.1
    have hdr := dr_rng z
    have hTK := TK_rng hT s m
    have hRT1 : RT h1 T := RT_z hT i24 (hF 127 (by decide)) (hF 128 (by decide)) (hF 129 (by decide)) (hF 130 (by decide)) hRT
    have hC1 : CWf h1 T lo := CWf_fr (hF 133 (by decide)) (hF 134 (by decide)) (hF 135 (by decide)) (hF 136 (by decide)) hC
    refine a_iload (j := 0) dX9_rides_24 rfl ?_
    refine a_if_lt (tgt := 75) dX9_rides_26 (by decide) (fun c26_1 => ?_) (fun c26_1 => ?_)
    · refine a_iload_n (j := 1) dX9_rides_75 rfl rfl ?_
      refine a_aload_n (j := 3) dX9_rides_76 rfl rfl (Nat.le_of_ble_eq_true rfl) ?_
      refine b_getp (a := 123) (p := 124) dX9_rides_77 fwX9_9 (by decide) rfl (by decide) rfl rfl ?_
      refine a_iconst dX9_rides_80 ⟨by decide, by decide⟩ ?_
      refine b_iaload (a := 124) (z := T 0 0) 2 dX9_rides_81 (by decide) rfl rfl (by decide) rfl hRT1.1.1.1 (fun r81_2 => ?_)
      refine a_icmp_ne (tgt := 90) dX9_rides_82 (by decide) (fun c82_3 => ?_) (fun c82_3 => ?_)
      · refine a_sipush dX9_rides_90 ⟨by decide, by decide, by decide⟩ ?_
        exact a_iret dX9_rides_93 rfl (kQ h1 2880 c z (by rw [hR, RDF_0 (by omega), if_neg (by omega)]) hF i24 iz i23 i34)
      · refine a_iload (j := 2) dX9_rides_85 rfl ?_
        refine a_goto (tgt := 93) dX9_rides_87 (by decide) ?_
        exact a_iret dX9_rides_93 rfl (kQ h1 m c z (by rw [hR, RDF_0 (by omega), if_pos (by omega)]) hF i24 iz i23 i34)
    · obtain ⟨tk, htk⟩ : ∃ tk : Nat, TK T s m = (tk : Int) := ⟨Int.toNat (TK T s m), by omega⟩
      rw [htk]
      have hml : m ≤ 1589 := by rcases Int.lt_or_le m 1590 with q | q; omega; (have := TK_late hT (s := s) q; omega)
      obtain ⟨sp, hsp⟩ : ∃ sp : Nat, sp = stF T tk (drF z % 100) := ⟨_, rfl⟩
      have hsp4 := stF_lt T tk (drF z % 100)
      rw [← hsp] at hsp4
      have qa := hT.2.2.2.2.2 tk
      have qa3 := qa.2.1
      have qa4 := qa.2.2.1
      have qa5 := qa.2.2.2.1
      have qa6 := qa.2.2.2.2.1
      have qa7 := qa.2.2.2.2.2.1
      have qa8 := (qa.2.2.2.2.2.2.2 (by omega))
      have qaw := hT.2.2.2.2.1 (Int.toNat (T 3 tk))
      have qa9sp := qa.2.2.2.2.2.2.1 sp (by omega)
      have har := arT_rng hT (t := tk) (s := sp) (m := m) (by omega)
      refine a_aload_n (j := 3) dX9_rides_29 rfl rfl (Nat.le_of_ble_eq_true rfl) ?_
      refine a_iload (j := 0) dX9_rides_30 rfl ?_
      refine a_iload (j := 2) dX9_rides_32 rfl ?_
      refine a_aload_n (j := 3) dX9_rides_34 rfl rfl (Nat.le_of_ble_eq_true rfl) ?_
      refine a_iload (j := 0) dX9_rides_35 rfl ?_
      refine b_callV (d' := d - 1) (mc' := 0) (ms' := 0) (mc1 := 0) (ms1 := 0) (st := [vI m, vI ((tk : Nat) : Int), vA 123]) (b := 123) [vI ((tk : Nat) : Int)] dX9_rides_37 mwX9_drawnStep lkX9_306 (by decide) rfl rc_X9 rfl (Nat.le_of_ble_eq_true rfl) (by omega) rfl rfl (c_X9_drawnStep (T := T) (t := tk) (z := z) (by omega) hT hRT1 (by omega) iz ?_)
      rw [← hsp]
      show Aj γ mX9_rides d 0 0 Post 40 [(5, vI ((tk : Nat) : Int)), (3, vI s), (4, vI m), (0, vA 123), (1, vI s0), (2, vI m0)] [vI ((sp : Nat) : Int), vI m, vI ((tk : Nat) : Int), vA 123] (mk (up2 h1 124 0 (zN z)) τ)
      refine b_callV (d' := d - 1) (mc' := 0) (ms' := 0) (mc1 := 0) (ms1 := 0) (st := []) (b := 123) [vI ((tk : Nat) : Int), vI m, vI ((sp : Nat) : Int)] dX9_rides_40 mwX9_readyBy lkX9_203 (by decide) rfl rc_X9 rfl (Nat.le_of_ble_eq_true rfl) (by omega) rfl rfl (c_X9_readyBy (v1 := (T 6 tk)) (v2 := (T 9 (4 * tk + sp) - T 6 tk)) (v3 := (T 4 tk)) (v4 := (T 3 tk)) (v5 := (T 1 (Int.toNat (T 3 tk)))) (v6 := (T 0 0)) (by omega)  ((up2_ne (by omega)).trans ((congrArg (h1 128) (show (Int.toNat ((tk : Nat) : Int)) = tk by omega)).trans (hRT1.2.2 tk (by omega)).1)) ((up2_ne (by omega)).trans ((congrArg (h1 130) (show (Int.toNat ((4 * ((tk : Nat) : Int)) + ((sp : Nat) : Int))) = (4 * tk + sp) by omega)).trans ((hRT1.2.2 tk (by omega)).2.2 sp (by omega)))) ((up2_ne (by omega)).trans ((congrArg (h1 124) (show (Int.toNat ((15 + (11 * ((tk : Nat) : Int))) + 4)) = (19 + 11 * tk) by omega)).trans (hRT1.1.2 tk (by omega)).2.2.1)) ((up2_ne (by omega)).trans ((congrArg (h1 124) (show (Int.toNat ((15 + (11 * ((tk : Nat) : Int))) + 2)) = (17 + 11 * tk) by omega)).trans (hRT1.1.2 tk (by omega)).2.1)) ((up2_ne (by omega)).trans (hRT1.2.1 _ (by omega))) ((up2_ne (by omega)).trans hRT1.1.1.1) (show 0 ≤ ((tk : Nat) : Int) ∧ ((tk : Nat) : Int) ≤ 11 by omega) (show 0 ≤ ((sp : Nat) : Int) ∧ ((sp : Nat) : Int) ≤ 3 by omega) (show 0 ≤ (T 6 tk) ∧ (T 6 tk) ≤ 1559 by omega) (show 0 ≤ (T 9 (4 * tk + sp) - T 6 tk) ∧ (T 9 (4 * tk + sp) - T 6 tk) ≤ 1000 by omega) (show 1 ≤ (T 4 tk) ∧ (T 4 tk) ≤ 600 by omega) (show 0 ≤ (T 3 tk) ∧ (T 3 tk) ≤ 5 by omega) (show 0 ≤ (T 1 (Int.toNat (T 3 tk))) ∧ (T 1 (Int.toNat (T 3 tk))) ≤ 99 by omega) (show 0 ≤ m ∧ m ≤ 5000 by omega) ?_)
      show Aj γ mX9_rides d 0 0 Post 43 [(5, vI ((tk : Nat) : Int)), (3, vI s), (4, vI m), (0, vA 123), (1, vI s0), (2, vI m0)] [vI (arrF ((T 6 tk) + (T 9 (4 * tk + sp) - T 6 tk)) m (T 4 tk) (T 3 tk) (T 0 0) (T 1 (Int.toNat (T 3 tk))))] (mk (up2 h1 124 0 (zN z)) τ)
      rw [show (arrF ((T 6 tk) + (T 9 (4 * tk + sp) - T 6 tk)) m (T 4 tk) (T 3 tk) (T 0 0) (T 1 (Int.toNat (T 3 tk)))) = (arT T tk sp m) by unfold arT; rw [show T 6 tk + (T 9 (4 * tk + sp) - T 6 tk) = T 9 (4 * tk + sp) by omega]]
      show Aj γ mX9_rides d 0 0 Post 43 [(5, vI ((tk : Nat) : Int)), (3, vI s), (4, vI m), (0, vA 123), (1, vI s0), (2, vI m0)] [vI (arT T tk sp m)] (mk (up2 h1 124 0 (zN z)) τ)
      refine a_istore (lv' := [(4, vI (arT T tk sp m)), (5, vI ((tk : Nat) : Int)), (3, vI s), (0, vA 123), (1, vI s0), (2, vI m0)]) dX9_rides_43 (by decide) rfl ?_
      refine a_aload_n (j := 3) dX9_rides_45 rfl rfl (Nat.le_of_ble_eq_true rfl) ?_
      refine a_iload (j := 1) dX9_rides_46 rfl ?_
      refine a_iconst dX9_rides_48 ⟨by decide, by decide⟩ ?_
      refine b_callV (d' := d - 1) (mc' := 0) (ms' := 0) (mc1 := 0) (ms1 := 0) (st := []) (b := 123) [vI ((tk : Nat) : Int), vI 2] dX9_rides_49 mwX9_of lkX9_107 (by decide) rfl rc_X9 rfl (Nat.le_of_ble_eq_true rfl) (by omega) rfl rfl (c_X9_of (v1 := (T 3 tk)) (by omega)  ((up2_ne (by omega)).trans ((congrArg (h1 124) (show (Int.toNat ((15 + (11 * ((tk : Nat) : Int))) + 2)) = (17 + 11 * tk) by omega)).trans (hRT1.1.2 tk (by omega)).2.1)) (show 0 ≤ ((tk : Nat) : Int) ∧ ((tk : Nat) : Int) ≤ 11 ∧ 0 ≤ 2 ∧ 2 ≤ 10 by omega) ?_)
      show Aj γ mX9_rides d 0 0 Post 52 [(4, vI (arT T tk sp m)), (5, vI ((tk : Nat) : Int)), (3, vI s), (0, vA 123), (1, vI s0), (2, vI m0)] [vI (T 3 tk)] (mk (up2 h1 124 0 (zN z)) τ)
      refine a_istore_n (lv' := [(3, vI (T 3 tk)), (4, vI (arT T tk sp m)), (5, vI ((tk : Nat) : Int)), (0, vA 123), (1, vI s0), (2, vI m0)]) dX9_rides_52 rfl (by decide) rfl ?_
      refine a_aload_n (j := 3) dX9_rides_53 rfl rfl (Nat.le_of_ble_eq_true rfl) ?_
      refine a_dup dX9_rides_54 (fun h => nomatch h) ?_
      refine b_get (a := 123) (z := c) (t := 0) dX9_rides_55 fwX9_303 (by decide) rfl (by decide) rfl rfl ((up2_ne (by omega)).trans i34) ?_
      refine a_iconst dX9_rides_58 ⟨by decide, by decide⟩ ?_
      refine a_iadd (z := (c + 1)) dX9_rides_59 (w_ok (by omega) (by omega)) ?_
      refine b_put (a := 123) (v := vI (c + 1)) dX9_rides_60 pwX9_303 (fun h => nomatch h) (by decide) rfl (by decide) rfl rfl (fit_int _) ?_
      show Aj γ mX9_rides d 0 0 Post 63 [(3, vI (T 3 tk)), (4, vI (arT T tk sp m)), (5, vI ((tk : Nat) : Int)), (0, vA 123), (1, vI s0), (2, vI m0)] [] (mk (up2 (up2 h1 124 0 (zN z)) 123 34 (c + 1)) τ)
      refine a_aload_n (j := 3) dX9_rides_63 rfl rfl (Nat.le_of_ble_eq_true rfl) ?_
      refine a_iload_n (j := 0) dX9_rides_64 rfl rfl ?_
      refine a_iload (j := 1) dX9_rides_65 rfl ?_
      refine b_callV (d' := d - 1) (mc' := 0) (ms' := 0) (mc1 := 0) (ms1 := 0) (st := []) (b := 123) [vI (T 3 tk), vI (arT T tk sp m)] dX9_rides_67 mwX9_takenAt lkX9_226 (by decide) rfl rc_X9 rfl (Nat.le_of_ble_eq_true rfl) (by omega) rfl rfl (c_X9_takenAtW (T := T) (lo := lo) (by omega) hT (RT_z hT (fun k hk => (up2_ne (by omega)).trans (up2_ne (by omega))) ((up2_row (by decide)).trans (up2_row (by decide))) ((up2_row (by decide)).trans (up2_row (by decide))) ((up2_row (by decide)).trans (up2_row (by decide))) ((up2_row (by decide)).trans (up2_row (by decide))) hRT1) (CWf_fr ((up2_row (by decide)).trans (up2_row (by decide))) ((up2_row (by decide)).trans (up2_row (by decide))) ((up2_row (by decide)).trans (up2_row (by decide))) ((up2_row (by decide)).trans (up2_row (by decide))) hC1) (by omega) (by omega) (by omega) ?_)
      show Aj γ mX9_rides d 0 0 Post 70 [(3, vI (T 3 tk)), (4, vI (arT T tk sp m)), (5, vI ((tk : Nat) : Int)), (0, vA 123), (1, vI s0), (2, vI m0)] [vI (TK T (T 3 tk) (arT T tk sp m))] (mk (up2 (up2 h1 124 0 (zN z)) 123 34 (c + 1)) τ)
      refine a_istore (lv' := [(5, vI (TK T (T 3 tk) (arT T tk sp m))), (3, vI (T 3 tk)), (4, vI (arT T tk sp m)), (0, vA 123), (1, vI s0), (2, vI m0)]) dX9_rides_70 (by decide) rfl ?_
      refine a_goto (tgt := 24) dX9_rides_72 (by decide) ?_
      refine a_lv (lv' := [(5, vI (TK T (T 3 tk) (arT T tk sp m))), (3, vI (T 3 tk)), (4, vI (arT T tk sp m)), (0, vA 123), (1, vI s0), (2, vI m0)]) (by intro q hq; simp only [List.mem_cons, List.not_mem_nil, or_false] at hq ⊢; rcases hq with rfl | rfl | rfl | rfl | rfl | rfl <;> simp) (ih (T 3 tk) (arT T tk sp m) (zN z) (c + 1) (up2 (up2 h1 124 0 (zN z)) 123 34 (c + 1)) (by omega) (by omega) (by omega) (by omega) (by omega) (by omega) (Fr_u (by decide) (Fr_u (by decide) (Fr_m (by decide) hF))) (fun k hk => (up2_ne (by omega)).trans ((up2_ne (by omega)).trans (i24 k hk))) ((up2_ne (by omega)).trans up2_at) (fun k hk => (up2_ne (by omega)).trans ((up2_ne (by omega)).trans (i23 k hk))) up2_at (hR.trans (by rw [RDF_s htk, ← hsp])))
theorem c_X9_rides {γ : GT} {d : Nat} {T : Nat → Nat → Int} {N : Nat → Int} {s m z : Int} {h : Nat → Nat → Int} {τ : List AC} {Post : Option AV → List AC → Prop} (hd : 6 ≤ d) (hTe : tt N = T) (hN : h 124 = N) (hX : NX N) (hC : RC h N) (hz : h 124 0 = z) (hs : 0 ≤ s ∧ s < N 4) (hm : 0 ≤ m ∧ m ≤ 5000) (kQ : ∀ h' e c' z', (e, c', z') = RDF T 1600 s m z 0 → Fr [123, 124, 127, 128, 129, 130, 131, 132, 133, 134, 135, 136, 143, 144] h h' → (∀ k, k ≠ 0 → h' 124 k = h 124 k) → h' 124 0 = z' → K3 h h' → h' 123 34 = c' → RC h' N → Post (some (vI e)) (mk h' τ)) : Cj γ mX9_rides d 0 0 [vA 123, vI s, vI m] (mk h τ) Post := by
  have hT : tOK T := hTe ▸ tt_OK hX.1
  have hNT : NTr N T := hTe ▸ NT_tt hX.1
  have e03 : N 4 = T 0 3 := hNT.1.2.2.2
  have h3_ := hT.2.2.2.1
  refine c_of (by decide) (Nat.le_of_ble_eq_true rfl) ?_
  show Aj γ mX9_rides d 0 0 Post 0 [(0, vA 123), (1, vI s), (2, vI m)] [] (mk h τ)
  refine a_aload_n (j := 0) dX9_rides_0 rfl rfl (Nat.le_of_ble_eq_true rfl) ?_
  refine a_iload_n (j := 2) dX9_rides_1 rfl rfl ?_
  refine b_callV (d' := d - 1) (mc' := 0) (ms' := 0) (mc1 := 0) (ms1 := 0) (st := []) (b := 123) [vI m] dX9_rides_2 mwX9_learnsFrom lkX9_222 (by decide) rfl rc_X9 rfl (Nat.le_of_ble_eq_true rfl) (by omega) rfl rfl (k_from (N := N) (mi := m) (by omega) hN hX.1 hC (by omega) (fun h7 hF7 k7 c7 t7 g7 => ?_))
  rw [hTe] at t7 g7
  show Aj γ mX9_rides d 0 0 Post 5 [(0, vA 123), (1, vI s), (2, vI m)] [] (mk h7 τ)
  refine a_aload_n (j := 0) dX9_rides_5 rfl rfl (Nat.le_of_ble_eq_true rfl) ?_
  refine a_iconst dX9_rides_6 ⟨by decide, by decide⟩ ?_
  refine b_put (a := 123) (v := vI 0) dX9_rides_7 pwX9_303 (fun h => nomatch h) (by decide) rfl (by decide) rfl rfl (fit_int _) ?_
  show Aj γ mX9_rides d 0 0 Post 10 [(0, vA 123), (1, vI s), (2, vI m)] [] (mk (up2 h7 123 34 0) τ)
  refine a_iload_n (j := 1) dX9_rides_10 rfl rfl ?_
  refine a_istore_n (lv' := [(3, vI s), (0, vA 123), (1, vI s), (2, vI m)]) dX9_rides_11 rfl (by decide) rfl ?_
  refine a_iload_n (j := 3) dX9_rides_12 rfl rfl ?_
  refine a_istore (lv' := [(4, vI m), (3, vI s), (0, vA 123), (1, vI s), (2, vI m)]) dX9_rides_13 (by decide) rfl ?_
  refine a_aload_n (j := 2) dX9_rides_15 rfl rfl (Nat.le_of_ble_eq_true rfl) ?_
  refine a_iload_n (j := 1) dX9_rides_16 rfl rfl ?_
  refine a_iload (j := 0) dX9_rides_17 rfl ?_
  refine b_callV (d' := d - 1) (mc' := 0) (ms' := 0) (mc1 := 0) (ms1 := 0) (st := []) (b := 123) [vI s, vI m] dX9_rides_19 mwX9_takenAt lkX9_226 (by decide) rfl rc_X9 rfl (Nat.le_of_ble_eq_true rfl) (by omega) rfl rfl (c_X9_takenAtW (T := T) (lo := m) (by omega) hT (RT_fr (L := [123]) (by decide) (Fr_u (by decide) Fr_r) t7) (CWf_fr (up2_row (by decide)) (up2_row (by decide)) (up2_row (by decide)) (up2_row (by decide)) g7) (by omega) (by omega) (by omega) ?_)
  show Aj γ mX9_rides d 0 0 Post 22 [(4, vI m), (3, vI s), (0, vA 123), (1, vI s), (2, vI m)] [vI (TK T s m)] (mk (up2 h7 123 34 0) τ)
  refine a_istore (lv' := [(5, vI (TK T s m)), (4, vI m), (3, vI s), (0, vA 123), (1, vI s), (2, vI m)]) dX9_rides_22 (by decide) rfl ?_
  refine a_lv (lv' := [(5, vI (TK T s m)), (3, vI s), (4, vI m), (0, vA 123), (1, vI s), (2, vI m)]) (by intro q hq; simp only [List.mem_cons, List.not_mem_nil, or_false] at hq ⊢; rcases hq with rfl | rfl | rfl | rfl | rfl | rfl <;> simp) (l_rides (h := (up2 h7 123 34 0)) (T := T) (lo := m) (R := RDF T 1600 s m z 0) (by omega) hT (RT_fr (L := [123]) (by decide) (Fr_u (by decide) Fr_r) t7) (CWf_fr (up2_row (by decide)) (up2_row (by decide)) (up2_row (by decide)) (up2_row (by decide)) g7) ?_ 1600 s m z 0 (up2 h7 123 34 0) (by omega) (by omega) (by omega) (by omega) (by omega) (by omega) Fr_r (fun k hk => rfl) ?_ (fun k hk => rfl) up2_at rfl)
  · intro h8 e8 c8 z8 r8 hF8 a8 b8 d8 f8
    refine kQ h8 e8 c8 z8 r8 (Fr_t (Fr_m (by decide) hF7) (Fr_t (Fr_u (by decide) Fr_r) (Fr_m (by decide) hF8))) (fun k hk => (a8 k hk).trans ((up2_ne (by omega)).trans (Fr_v hF7 (by decide)))) b8 (K3_t k7 (fun k _ _ hk => (d8 k hk).trans (up2_ne (by omega)))) f8 (RC_k (h := h7) (fun k hk => (d8 k hk).trans (up2_ne (by omega))) (fun c hc => (hF8 c ((by decide : ∀ c, c ∈ [127, 128, 129, 130, 133, 134, 135, 136] → c ∉ [123, 124]) c hc)).trans (up2_row ((by decide : ∀ c, c ∈ [127, 128, 129, 130, 133, 134, 135, 136] → c ≠ 123) c hc))) c7)
  · exact (up2_ne (by decide)).trans ((Fr_v hF7 (by decide)).trans hz)
theorem CC_r {h h' : Nat → Nat → Int} {N J : Nat → Int} (hF : Fr [0, 1, 78] h h') (h0 : ∀ k, k ≠ 8 → h' 0 k = h 0 k) (h1 : ∀ k, k ≠ 15 → h' 1 k = h 1 k) (h8 : ∀ k, k ≠ 3 → h' 78 k = h 78 k) (hC : CC h N J) : CC h' N J := by
  unfold CC CCt CCs CCr at hC ⊢
  have e63 : h' 63 = h 63 := hF 63 (by decide)
  have e32 : h' 32 = h 32 := hF 32 (by decide)
  have e80 : h' 80 = h 80 := hF 80 (by decide)
  have e82 : h' 82 = h 82 := hF 82 (by decide)
  rw [h0 2 (by decide), h0 3 (by decide), h1 0 (by decide), h8 0 (by decide), h8 2 (by decide), e63, e32, e80, e82]
  have T1 : ∀ T, TT h T → TT h' T := fun T t => TT_fr (by decide) hF t
  obtain ⟨⟨a1, a2, a3, a4⟩, b, c⟩ := hC
  exact ⟨⟨fun e => T1 _ (a1 e), fun e => CHp_fr (hF 79 (by decide)) (a2 e), fun e => CHp_fr (hF 81 (by decide)) (a3 e), fun e => CHp_fr (hF 83 (by decide)) (a4 e)⟩, fun k => by
    obtain ⟨b1, b2, b3, b4⟩ := b k
    exact ⟨fun e => T1 _ (b1 e), fun e => CHp_fr (hF 79 (by decide)) (b2 e), fun e => CHp_fr (hF 81 (by decide)) (b3 e), fun e => CHp_fr (hF 83 (by decide)) (b4 e)⟩, c⟩
/-- what ride answers, and z after it -/
def vRide (N : Nat → Int) (s m : Int) : Int × Int × Int := RDF (tt N) 1600 s m (N 0) 0
set_option maxHeartbeats 8000000 in
theorem q_X8_ride {γ : GT} {d : Nat} {s m : Int} {N J : Nat → Int} {h : Nat → Nat → Int} {τ : List AC} {Post : Option AV → List AC → Prop} (hd : 12 ≤ d) (hR : WR h τ 1 N) (hX : NX N) (hC : CC h N J) (kB : ¬ ((0 ≤ s ∧ s < N 4) ∧ (0 ≤ m ∧ m ≤ 2879)) → Post (some (vI (-1000000001))) (mk h τ)) (kQ : (0 ≤ s ∧ s < N 4) ∧ (0 ≤ m ∧ m ≤ 2879) → ∀ h', Fr [0, 1, 63, 64, 65, 66, 67, 68, 69, 70, 71, 72, 73, 74, 75, 76, 77, 78, 79, 80, 81, 82, 83] h h' → (∀ k, k ≠ 8 → h' 0 k = h 0 k) → (∀ k, k ≠ 15 → h' 1 k = h 1 k) → h' 1 15 = (vRide N s m).2.2 → CC h' N J → Post (some (vI (vRide N s m).1)) (mk h' τ)) : Cj γ mX8_ride d 0 0 [vA 0, vI s, vI m] (mk h τ) Post := by
  have hsc := hX.1.1
  have hs1 := hsc.1
  have hs2 := hsc.2.1
  have hs3 := hsc.2.2.1
  have hs4 := hsc.2.2.2.1
  have hs5 := hsc.2.2.2.2
  have hx7 := hX.2.1
  have hx8 := hX.2.2.2.1
  obtain ⟨T, hTe⟩ : ∃ T, tt N = T := ⟨_, rfl⟩
  have hT : tOK T := hTe ▸ tt_OK hX.1
  have hNT : NTr N T := hTe ▸ NT_tt hX.1
  have e02 : N 5 = T 0 2 := hNT.1.2.2.1
  have e03 : N 4 = T 0 3 := hNT.1.2.2.2
  have hvr : vRide N s m = RDF T 1600 s m (N 0) 0 := by unfold vRide; rw [hTe]
  refine c_of (by decide) (Nat.le_of_ble_eq_true rfl) ?_
  show Aj γ mX8_ride d 0 0 Post 0 [(0, vA 0), (1, vI s), (2, vI m)] [] (mk h τ)
  refine a_aload_n (j := 0) dX8_ride_0 rfl rfl (Nat.le_of_ble_eq_true rfl) ?_
  refine a_iload_n (j := 1) dX8_ride_1 rfl rfl ?_
  refine a_iload_n (j := 2) dX8_ride_2 rfl rfl ?_
  refine b_callV (d' := d - 1) (mc' := 0) (ms' := 0) (mc1 := 0) (ms1 := 0) (st := []) (b := 0) [vI s, vI m] dX8_ride_3 mwX8_isPoint lkX8_204 (by decide) rfl rc_X8 rfl (Nat.le_of_ble_eq_true rfl) (by omega) rfl rfl (c_X8_isPoint (v1 := (N 4)) (by omega)  hR.1.1 (show 0 ≤ (N 4) ∧ (N 4) ≤ 6 by omega) (fun t3_1 => ?_) (fun t3_1 => ?_))
  · have t3_1 : (0 ≤ s ∧ s < (N 4)) ∧ (0 ≤ m ∧ m ≤ 2879) := t3_1
    show Aj γ mX8_ride d 0 0 Post 6 [(0, vA 0), (1, vI s), (2, vI m)] [vI 1] (mk h τ)
    refine a_if_ne (tgt := 12) dX8_ride_6 (by decide) (fun _ => ?_) (fun c => absurd c (by decide))
    refine a_aload_n (j := 0) dX8_ride_12 rfl rfl (Nat.le_of_ble_eq_true rfl) ?_
    refine b_getp (a := 0) (p := 78) dX8_ride_13 fwX8_33 (by decide) rfl (by decide) rfl rfl ?_
    refine a_aload_n (j := 0) dX8_ride_16 rfl rfl (Nat.le_of_ble_eq_true rfl) ?_
    refine b_getp (a := 0) (p := 63) dX8_ride_17 fwX8_24 (by decide) rfl (by decide) rfl rfl ?_
    refine a_aload_n (j := 0) dX8_ride_20 rfl rfl (Nat.le_of_ble_eq_true rfl) ?_
    refine b_getp (a := 0) (p := 1) dX8_ride_21 fwX8_14 (by decide) rfl (by decide) rfl rfl ?_
    refine b_callV (d' := d - 1) (mc' := 0) (ms' := 0) (mc1 := 0) (ms1 := 0) (st := []) (b := 78) [vA 63, vA 1] dX8_ride_24 mwX0_drawnFor lkX8_207 (by decide) rfl rc_X0 rfl (Nat.le_of_ble_eq_true rfl) (by omega) rfl rfl (k_drawn_78 (N := N) (J := J) (by omega) hR hX.1 hC (fun h7 hF7 c7 t7 g7 => ?_))
    rw [hTe] at t7 g7
    show Aj γ mX8_ride d 0 0 Post 27 [(0, vA 0), (1, vI s), (2, vI m)] [vA 78] (mk h7 τ)
    refine a_pop dX8_ride_27 (fun h => nomatch h) ?_
    refine a_aload_n (j := 0) dX8_ride_28 rfl rfl (Nat.le_of_ble_eq_true rfl) ?_
    refine a_aload_n (j := 0) dX8_ride_29 rfl rfl (Nat.le_of_ble_eq_true rfl) ?_
    refine b_getp (a := 0) (p := 1) dX8_ride_30 fwX8_14 (by decide) rfl (by decide) rfl rfl ?_
    refine a_iload_n (j := 1) dX8_ride_33 rfl rfl ?_
    refine a_iload_n (j := 2) dX8_ride_34 rfl rfl ?_
    refine b_callV (d' := d - 1) (mc' := 0) (ms' := 0) (mc1 := 0) (ms1 := 0) (st := []) (b := 0) [vA 1, vI s, vI m] dX8_ride_35 mwX8_rideOn lkX8_259 (by decide) rfl rc_X8 rfl (Nat.le_of_ble_eq_true rfl) (by omega) rfl rfl (c_X8_rideOn_1 (T := T) (s := s) (m := m) (z := N 0) (by omega) hT t7 c7.2.2.1.1.1 g7 ((Fr_v hF7 (by decide)).trans (hR.1.2.2.2.2.1.trans hNT.1.1)) ((Fr_v hF7 (by decide)).trans hR.1.2.2.2.2.2.2.2.2) (by omega) (by omega) (fun h8 e8 z8c z8 r8 hF8 a8 b8 d8 f8 i8 => ?_))
    show Aj γ mX8_ride d 0 0 Post 38 [(0, vA 0), (1, vI s), (2, vI m)] [vI e8] (mk h8 τ)
    exact a_iret dX8_ride_38 rfl (by rw [← hvr] at r8; have q := kQ (by omega) h8 (Fr_t (Fr_m (by decide) hF7) (Fr_m (by decide) hF8)) (fun k hk => (a8 k hk).trans (Fr_v hF7 (by decide))) (fun k hk => (d8 k hk).trans (Fr_v hF7 (by decide))) (by rw [← r8]; exact f8) (CC_r hF8 a8 d8 i8 c7); rw [← r8] at q; exact q)
  · have t3_1 : ¬ ((0 ≤ s ∧ s < (N 4)) ∧ (0 ≤ m ∧ m ≤ 2879)) := t3_1
    show Aj γ mX8_ride d 0 0 Post 6 [(0, vA 0), (1, vI s), (2, vI m)] [vI 0] (mk h τ)
    refine a_if_ne (tgt := 12) dX8_ride_6 (by decide) (fun c => absurd c (by decide)) (fun _ => ?_)
    refine a_ldc (z := (-1000000001)) dX8_ride_9 kwX8_72 ⟨by decide, by decide, by decide⟩ ?_
    exact a_iret dX8_ride_11 rfl (kB (by omega))
set_option maxHeartbeats 8000000 in
theorem q_X9_ride {γ : GT} {d : Nat} {s m : Int} {N : Nat → Int} {h : Nat → Nat → Int} {τ : List AC} {Post : Option AV → List AC → Prop} (hd : 12 ≤ d) (hN : h 124 = N) (hX : NX N) (hC : RC h N) (kB : ¬ ((0 ≤ s ∧ s < N 4) ∧ (0 ≤ m ∧ m ≤ 2879)) → Post (some (vI (-1000000001))) (mk h τ)) (kQ : (0 ≤ s ∧ s < N 4) ∧ (0 ≤ m ∧ m ≤ 2879) → ∀ h', Fr [123, 124, 127, 128, 129, 130, 131, 132, 133, 134, 135, 136, 143, 144] h h' → (∀ k, k ≠ 0 → h' 124 k = h 124 k) → h' 124 0 = (vRide N s m).2.2 → K3 h h' → RC h' N → Post (some (vI (vRide N s m).1)) (mk h' τ)) : Cj γ mX9_ride d 0 0 [vA 123, vI s, vI m] (mk h τ) Post := by
  have hsc := hX.1.1
  have hs1 := hsc.1
  have hs2 := hsc.2.1
  have hs3 := hsc.2.2.1
  have hs4 := hsc.2.2.2.1
  have hs5 := hsc.2.2.2.2
  have hx7 := hX.2.1
  have hx8 := hX.2.2.2.1
  obtain ⟨T, hTe⟩ : ∃ T, tt N = T := ⟨_, rfl⟩
  have hT : tOK T := hTe ▸ tt_OK hX.1
  have hNT : NTr N T := hTe ▸ NT_tt hX.1
  have e02 : N 5 = T 0 2 := hNT.1.2.2.1
  have e03 : N 4 = T 0 3 := hNT.1.2.2.2
  have hvr : vRide N s m = RDF T 1600 s m (N 0) 0 := by unfold vRide; rw [hTe]
  refine c_of (by decide) (Nat.le_of_ble_eq_true rfl) ?_
  show Aj γ mX9_ride d 0 0 Post 0 [(0, vA 123), (1, vI s), (2, vI m)] [] (mk h τ)
  refine a_aload_n (j := 0) dX9_ride_0 rfl rfl (Nat.le_of_ble_eq_true rfl) ?_
  refine a_iload_n (j := 1) dX9_ride_1 rfl rfl ?_
  refine a_iload_n (j := 2) dX9_ride_2 rfl rfl ?_
  refine b_callV (d' := d - 1) (mc' := 0) (ms' := 0) (mc1 := 0) (ms1 := 0) (st := []) (b := 123) [vI s, vI m] dX9_ride_3 mwX9_isPlace lkX9_219 (by decide) rfl rc_X9 rfl (Nat.le_of_ble_eq_true rfl) (by omega) rfl rfl (c_X9_isPlace (v1 := (N 4)) (by omega)  (congrFun hN _) (show 0 ≤ (N 4) ∧ (N 4) ≤ 6 by omega) (fun t3_1 => ?_) (fun t3_1 => ?_))
  · have t3_1 : (0 ≤ s ∧ s < (N 4)) ∧ (0 ≤ m ∧ m ≤ 2879) := t3_1
    show Aj γ mX9_ride d 0 0 Post 6 [(0, vA 123), (1, vI s), (2, vI m)] [vI 1] (mk h τ)
    refine a_if_eq (tgt := 18) dX9_ride_6 (by decide) (fun c => absurd c (by decide)) (fun _ => ?_)
    refine a_aload_n (j := 0) dX9_ride_9 rfl rfl (Nat.le_of_ble_eq_true rfl) ?_
    refine a_iload_n (j := 1) dX9_ride_10 rfl rfl ?_
    refine a_iload_n (j := 2) dX9_ride_11 rfl rfl ?_
    refine b_callV (d' := d - 1) (mc' := 0) (ms' := 0) (mc1 := 0) (ms1 := 0) (st := []) (b := 123) [vI s, vI m] dX9_ride_12 mwX9_rides lkX9_309 (by decide) rfl rc_X9 rfl (Nat.le_of_ble_eq_true rfl) (by omega) rfl rfl (c_X9_rides (T := T) (N := N) (s := s) (m := m) (z := N 0) (by omega) hTe hN hX hC (congrFun hN 0) (by omega) (by omega) (fun h8 e8 z8c z8 r8 hF8 a8 b8 d8 f8 i8 => ?_))
    show Aj γ mX9_ride d 0 0 Post 15 [(0, vA 123), (1, vI s), (2, vI m)] [vI e8] (mk h8 τ)
    refine a_goto (tgt := 20) dX9_ride_15 (by decide) ?_
    exact a_iret dX9_ride_20 rfl (by rw [← hvr] at r8; have q := kQ (by omega) h8 hF8 a8 (by rw [← r8]; exact b8) d8 i8; rw [← r8] at q; exact q)
  · have t3_1 : ¬ ((0 ≤ s ∧ s < (N 4)) ∧ (0 ≤ m ∧ m ≤ 2879)) := t3_1
    show Aj γ mX9_ride d 0 0 Post 6 [(0, vA 123), (1, vI s), (2, vI m)] [vI 0] (mk h τ)
    refine a_if_eq (tgt := 18) dX9_ride_6 (by decide) (fun _ => ?_) (fun c => absurd c (by decide))
    refine a_ldc (z := (-1000000001)) dX9_ride_18 kwX9_146 ⟨by decide, by decide, by decide⟩ ?_
    exact a_iret dX9_ride_20 rfl (kB (by omega))
