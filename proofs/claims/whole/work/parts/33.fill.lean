theorem WT_same {κ : Int} {T : Nat → Nat → Int} (h : tOK T) {stop m m' : Int} (hg : ¬ stop = T 0 0) (h0 : 0 ≤ m) (h1 : m ≤ 1590) (h0' : 0 ≤ m') (h1' : m' ≤ 1590) (hp : plT T m = plT T m') : WT κ T stop m = WT κ T stop m' := by
  rcases Int.le_total m m' with c | c
  · have e := WT_place (κ := κ) h hg (Int.toNat (m' - m)) m h0 (by omega) (by rw [show m + ((Int.toNat (m' - m) : Nat) : Int) = m' by omega]; exact hp)
    rw [show m + ((Int.toNat (m' - m) : Nat) : Int) = m' by omega] at e
    exact e
  · have e := WT_place (κ := κ) h hg (Int.toNat (m - m')) m' h0' (by omega) (by rw [show m' + ((Int.toNat (m - m') : Nat) : Int) = m by omega]; exact hp.symm)
    rw [show m' + ((Int.toNat (m - m') : Nat) : Int) = m by omega] at e
    exact e.symm
theorem CHp_0 {h : Nat → Nat → Int} {c : Nat} {κ : Int} {T : Nat → Nat → Int} (hT : tOK T) (h0 : ∀ s : Nat, s < 6 → h (c + 1) (373 * s) = wonF κ) : CHp h c κ T 0 := by
  intro s m h1 h2 h3 h4 h5 h6
  have hp := plT_rng hT m
  have e : plT T m = 0 := by omega
  rw [e, show Int.toNat (s * 373 + 0) = 373 * Int.toNat s by omega, h0 _ (by omega)]
  by_cases c5 : m = 1590
  · rw [WT_late hT h3 (by omega)]
  · rw [WT_p0 hT h3 h4 (by omega) e]
/-- from place p - 1 to place p -/
theorem CHp_s {h h' : Nat → Nat → Int} {c p : Nat} {κ mm : Int} {T : Nat → Nat → Int} (hT : tOK T) (hp : 1 ≤ p ∧ p ≤ 372) (hm : 0 ≤ mm ∧ mm ≤ 1589) (hpl : plT T mm = (p : Int)) (hC : CHp h c κ T ((p : Int) - 1)) (ho : ∀ q : Nat, (∀ s : Nat, s < 6 → q ≠ 373 * s + p) → h' (c + 1) q = h (c + 1) q) (hn : ∀ s : Nat, s < 6 → ¬ (s : Int) = T 0 0 → h' (c + 1) (373 * s + p) = WT κ T s mm) : CHp h' c κ T (p : Int) := by
  intro s m h1 h2 h3 h4 h5 h6
  have hr := plT_rng hT m
  by_cases e : plT T m = (p : Int)
  · rw [e, show Int.toNat (s * 373 + (p : Int)) = 373 * Int.toNat s + p by omega, hn _ (by omega) (by omega), show ((Int.toNat s : Nat) : Int) = s by omega]
    exact WT_same hT h3 (by omega) (by omega) h4 h5 (by omega)
  · rw [ho _ (fun s' hs' => by omega)]
    exact hC s m h1 h2 h3 h4 h5 (by omega)
theorem CHp_o {h h' : Nat → Nat → Int} {c p : Nat} {κ : Int} {T : Nat → Nat → Int} (hT : tOK T) (hp : 1 ≤ p ∧ p ≤ 372) (hC : CHp h c κ T ((p : Int) - 1)) (ho : ∀ q : Nat, (∀ s : Nat, s < 6 → q ≠ 373 * s + p) → h' (c + 1) q = h (c + 1) q) : CHp h' c κ T ((p : Int) - 1) := by
  intro s m h1 h2 h3 h4 h5 h6
  have hr := plT_rng hT m
  rw [ho _ (fun s' hs' => by omega)]
  exact hC s m h1 h2 h3 h4 h5 h6
set_option maxHeartbeats 8000000 in
theorem l_fr1_78 {γ : GT} {d : Nat} {κ : Int} {T : Nat → Nat → Int} {h : Nat → Nat → Int} {τ : List AC} {Post : Option AV → List AC → Prop} (hd : 4 ≤ d) (hκ0 : h 78 0 = κ) (kE : ∀ h' x, Fr [79] h h' → (∀ s : Nat, s < 6 → h' 79 (373 * s) = wonF κ) → Aj γ mX0_fillRow d 0 0 Post 28 [(2, vI x), (0, vA 78), (1, vA 63)] [] (mk h' τ)) :
    ∀ (f i : Nat) (h1 : Nat → Nat → Int), i ≤ 6 → 6 < i + f → Fr [79] h h1 → (∀ s : Nat, s < i → h1 79 (373 * s) = wonF κ) → Aj γ mX0_fillRow d 0 0 Post 2 [(2, vI ((i : Nat) : Int)), (0, vA 78), (1, vA 63)] [] (mk h1 τ) := by
  intro f
  induction f with
  | zero => intro i h1  h1_ h2_; omega
  | succ f ih =>
    intro i h1  h1_ h2_ hF iv
    refine a_iload_n (j := 0) dX0_fillRow_2 rfl rfl ?_
    refine a_bipush dX0_fillRow_3 ⟨by decide, by decide, by decide⟩ ?_
    refine a_icmp_ge (tgt := 28) dX0_fillRow_5 (by decide) (fun c5_1 => ?_) (fun c5_1 => ?_)
    · exact kE _ _ hF (fun s hs => iv s (by omega))
    · refine a_aload_n (j := 1) dX0_fillRow_8 rfl rfl (Nat.le_of_ble_eq_true rfl) ?_
      refine b_getp (a := 78) (p := 79) dX0_fillRow_9 fwX0_11 (by decide) rfl (by decide) rfl rfl ?_
      refine a_iload_n (j := 0) dX0_fillRow_12 rfl rfl ?_
      refine a_sipush dX0_fillRow_13 ⟨by decide, by decide, by decide⟩ ?_
      refine a_imul (z := (((i : Nat) : Int) * 373)) dX0_fillRow_16 (w_ok (by omega) (by omega)) ?_
      refine a_aload_n (j := 1) dX0_fillRow_17 rfl rfl (Nat.le_of_ble_eq_true rfl) ?_
      refine b_callV (d' := d - 1) (mc' := 0) (ms' := 0) (mc1 := 0) (ms1 := 0) (st := [vI (((i : Nat) : Int) * 373), vA 79]) (b := 78) [] dX0_fillRow_18 mwX0_worthOfNone lkX0_33 (by decide) rfl rc_X0 rfl (Nat.le_of_ble_eq_true rfl) (by omega) rfl rfl (c_X0_worthOfNone (v1 := κ) (by omega) (Or.inl rfl) ((Fr_v hF (by decide)).trans hκ0)  ?_)
      show Aj γ mX0_fillRow d 0 0 Post 21 [(2, vI ((i : Nat) : Int)), (0, vA 78), (1, vA 63)] [vI (wonF κ), vI (((i : Nat) : Int) * 373), vA 79] (mk h1 τ)
      refine b_iastore (a := 79) (373 * i) dX0_fillRow_21 (by decide) rfl (by omega) (by omega) (sp_nil rfl _) ?_
      refine a_iinc (j := 0) (z' := ((i + 1 : Nat) : Int)) (lv' := [(2, vI ((i + 1 : Nat) : Int)), (0, vA 78), (1, vA 63)]) dX0_fillRow_22 rfl (w_okN (by omega) (by omega) (by omega)) (by decide) rfl ?_
      refine a_goto (tgt := 2) dX0_fillRow_25 (by decide) ?_
      refine a_lv (lv' := [(2, vI (((i + 1) : Nat) : Int)), (0, vA 78), (1, vA 63)]) (by intro q hq; simp only [List.mem_cons, List.not_mem_nil, or_false] at hq ⊢; rcases hq with rfl | rfl | rfl <;> simp) (ih (i + 1) (up2 h1 79 (373 * i) (wonF κ))  (by omega) (by omega) (Fr_u (by decide) (Fr_m (by decide) hF)) (fun s hs => by
          by_cases c : s = i
          · subst c; exact up2_at
          · exact (up2_ne (by omega)).trans (iv s (by omega))))
set_option maxHeartbeats 8000000 in
theorem l_frA_78 {γ : GT} {d : Nat} {p : Nat} {mm : Int} {h : Nat → Nat → Int} {τ : List AC} {Post : Option AV → List AC → Prop} (hd : 4 ≤ d) (hp : 1 ≤ p ∧ p ≤ 372) (kE : ∀ h' x, Fr [79] h h' → (∀ s : Nat, s < 6 → h' 79 (373 * s + p) = h 79 (373 * s + (p - 1))) → (∀ q : Nat, (∀ s : Nat, s < 6 → q ≠ 373 * s + p) → h' 79 q = h 79 q) → Aj γ mX0_fillRow d 0 0 Post 89 [(4, vI x), (3, vI mm), (2, vI ((p : Nat) : Int)), (0, vA 78), (1, vA 63)] [] (mk h' τ)) :
    ∀ (f i : Nat) (h1 : Nat → Nat → Int), i ≤ 6 → 6 < i + f → Fr [79] h h1 → (∀ s : Nat, s < i → h1 79 (373 * s + p) = h 79 (373 * s + (p - 1))) → (∀ q : Nat, (∀ s : Nat, s < 6 → q ≠ 373 * s + p) → h1 79 q = h 79 q) → Aj γ mX0_fillRow d 0 0 Post 48 [(4, vI ((i : Nat) : Int)), (3, vI mm), (2, vI ((p : Nat) : Int)), (0, vA 78), (1, vA 63)] [] (mk h1 τ) := by
  intro f
  induction f with
  | zero => intro i h1  h1_ h2_; omega
  | succ f ih =>
    intro i h1  h1_ h2_ hF iv io
    refine a_iload (j := 0) dX0_fillRow_48 rfl ?_
    refine a_bipush dX0_fillRow_50 ⟨by decide, by decide, by decide⟩ ?_
    refine a_icmp_ge (tgt := 89) dX0_fillRow_52 (by decide) (fun c52_1 => ?_) (fun c52_1 => ?_)
    · exact kE _ _ hF (fun s hs => iv s (by omega)) io
    · refine a_aload_n (j := 3) dX0_fillRow_55 rfl rfl (Nat.le_of_ble_eq_true rfl) ?_
      refine b_getp (a := 78) (p := 79) dX0_fillRow_56 fwX0_11 (by decide) rfl (by decide) rfl rfl ?_
      refine a_iload (j := 0) dX0_fillRow_59 rfl ?_
      refine a_sipush dX0_fillRow_61 ⟨by decide, by decide, by decide⟩ ?_
      refine a_imul (z := (((i : Nat) : Int) * 373)) dX0_fillRow_64 (w_ok (by omega) (by omega)) ?_
      refine a_iload_n (j := 2) dX0_fillRow_65 rfl rfl ?_
      refine a_iadd (z := ((((i : Nat) : Int) * 373) + ((p : Nat) : Int))) dX0_fillRow_66 (w_ok (by omega) (by omega)) ?_
      refine a_aload_n (j := 3) dX0_fillRow_67 rfl rfl (Nat.le_of_ble_eq_true rfl) ?_
      refine b_getp (a := 78) (p := 79) dX0_fillRow_68 fwX0_11 (by decide) rfl (by decide) rfl rfl ?_
      refine a_iload (j := 0) dX0_fillRow_71 rfl ?_
      refine a_sipush dX0_fillRow_73 ⟨by decide, by decide, by decide⟩ ?_
      refine a_imul (z := (((i : Nat) : Int) * 373)) dX0_fillRow_76 (w_ok (by omega) (by omega)) ?_
      refine a_iload_n (j := 2) dX0_fillRow_77 rfl rfl ?_
      refine a_iadd (z := ((((i : Nat) : Int) * 373) + ((p : Nat) : Int))) dX0_fillRow_78 (w_ok (by omega) (by omega)) ?_
      refine a_iconst dX0_fillRow_79 ⟨by decide, by decide⟩ ?_
      refine a_isub (z := (((((i : Nat) : Int) * 373) + ((p : Nat) : Int)) - 1)) dX0_fillRow_80 (w_ok (by omega) (by omega)) ?_
      refine b_iaload (a := 79) (z := h 79 (373 * i + (p - 1))) (373 * i + (p - 1)) dX0_fillRow_81 (by decide) rfl (by omega) (by omega) (sp_nil rfl _) (io _ (fun s hs => by omega)) (fun r81_2 => ?_)
      refine b_iastore (a := 79) (373 * i + p) dX0_fillRow_82 (by decide) rfl (by omega) (by omega) (sp_nil rfl _) ?_
      refine a_iinc (j := 0) (z' := ((i + 1 : Nat) : Int)) (lv' := [(4, vI ((i + 1 : Nat) : Int)), (3, vI mm), (2, vI ((p : Nat) : Int)), (0, vA 78), (1, vA 63)]) dX0_fillRow_83 rfl (w_okN (by omega) (by omega) (by omega)) (by decide) rfl ?_
      refine a_goto (tgt := 48) dX0_fillRow_86 (by decide) ?_
      refine a_lv (lv' := [(4, vI (((i + 1) : Nat) : Int)), (3, vI mm), (2, vI ((p : Nat) : Int)), (0, vA 78), (1, vA 63)]) (by intro q hq; simp only [List.mem_cons, List.not_mem_nil, or_false] at hq ⊢; rcases hq with rfl | rfl | rfl | rfl | rfl <;> simp) (ih (i + 1) (up2 h1 79 (373 * i + p) (h 79 (373 * i + (p - 1))))  (by omega) (by omega) (Fr_u (by decide) (Fr_m (by decide) hF)) (fun s hs => by
          by_cases c : s = i
          · subst c; exact up2_at
          · exact (up2_ne (by omega)).trans (iv s (by omega))) (fun q hq => (up2_ne (fun e => hq i (by omega) e.2)).trans (io q hq)))
set_option maxHeartbeats 8000000 in
theorem l_frB_78 {γ : GT} {d : Nat} {κ : Int} {T : Nat → Nat → Int} {p n : Nat} {mm : Int} {h : Nat → Nat → Int} {τ : List AC} {Post : Option AV → List AC → Prop} (hd : 4 ≤ d) (hκ0 : h 78 0 = κ) (hκ : κ = 0) (hT : tOK T) (hTT : TT h T) (hn : T 0 2 = ((n : Nat) : Int)) (hp : 1 ≤ p ∧ p ≤ 372) (hm : 0 ≤ mm ∧ mm ≤ 1589) (hpl : plT T (mm + 1) ≤ (p : Int) - 1) (hC : CHp h 78 κ T ((p : Int) - 1)) (kE : ∀ h' x, Fr [78, 79] h h' → (∀ s : Nat, s < 6 → ¬ (s : Int) = T 0 0 → h' 79 (373 * s + p) = WT κ T s mm ∨ ((∀ u : Nat, u < n → T 2 u = (s : Int) → ¬ (T 6 u ≤ mm ∧ mm ≤ lsT T u)) ∧ h' 79 (373 * s + p) = WT κ T s (mm + 1))) → (∀ q : Nat, (∀ s : Nat, s < 6 → q ≠ 373 * s + p) → h' 79 q = h 79 q) → (∀ k, k ≠ 3 → h' 78 k = h 78 k) → Aj γ mX0_fillRow d 0 0 Post 163 [(4, vI x), (3, vI mm), (2, vI ((p : Nat) : Int)), (0, vA 78), (1, vA 63)] [] (mk h' τ)) :
    ∀ (f i : Nat) (h1 : Nat → Nat → Int), i ≤ n → n < i + f → Fr [78, 79] h h1 → (∀ s : Nat, s < 6 → ¬ (s : Int) = T 0 0 → h1 79 (373 * s + p) = WT κ T s mm ∨ ((∀ u : Nat, u < i → T 2 u = (s : Int) → ¬ (T 6 u ≤ mm ∧ mm ≤ lsT T u)) ∧ h1 79 (373 * s + p) = WT κ T s (mm + 1))) → (∀ q : Nat, (∀ s : Nat, s < 6 → q ≠ 373 * s + p) → h1 79 q = h 79 q) → (∀ k, k ≠ 3 → h1 78 k = h 78 k) → Aj γ mX0_fillRow d 0 0 Post 92 [(4, vI ((i : Nat) : Int)), (3, vI mm), (2, vI ((p : Nat) : Int)), (0, vA 78), (1, vA 63)] [] (mk h1 τ) := by
  intro f
  induction f with
  | zero => intro i h1  h1_ h2_; omega
  | succ f ih =>
    intro i h1  h1_ h2_ hF iv io iq
    have h2_ := hT.2.2.1
    have hb := hT.2.2.2.2.2 i
    have hb1 := hb.1
    have hb6 := hb.2.2.2.2.1
    have hb7 := hb.2.2.2.2.2.1
    refine a_iload (j := 0) dX0_fillRow_92 rfl ?_
    refine a_aload_n (j := 4) dX0_fillRow_94 rfl rfl (Nat.le_of_ble_eq_true rfl) ?_
    refine b_get (a := 63) (z := ((n : Nat) : Int)) (t := 0) dX0_fillRow_95 fwX0_43 (by decide) rfl (by decide) rfl rfl ((Fr_v hF (by decide)).trans (hTT.1.2.2.trans hn)) ?_
    refine a_icmp_ge (tgt := 163) dX0_fillRow_98 (by decide) (fun c98_1 => ?_) (fun c98_1 => ?_)
    · obtain rfl : i = n := (by omega)
      exact kE _ _ hF iv io iq
    · refine a_iload_n (j := 1) dX0_fillRow_101 rfl rfl ?_
      refine a_aload_n (j := 4) dX0_fillRow_102 rfl rfl (Nat.le_of_ble_eq_true rfl) ?_
      refine b_getp (a := 63) (p := 69) dX0_fillRow_103 fwX0_46 (by decide) rfl (by decide) rfl rfl ?_
      refine a_iload (j := 0) dX0_fillRow_106 rfl ?_
      refine b_iaload (a := 69) (z := T 6 i) i dX0_fillRow_108 (by decide) rfl rfl (by omega) (sp_nil rfl _) ((Fr_v hF (by decide)).trans (hTT.2.2.1 i (by omega)).2.2.2.2.1) (fun r108_2 => ?_)
      refine a_aload_n (j := 4) dX0_fillRow_109 rfl rfl (Nat.le_of_ble_eq_true rfl) ?_
      refine a_iload (j := 0) dX0_fillRow_110 rfl ?_
      refine b_callV (d' := d - 1) (mc' := 0) (ms' := 0) (mc1 := 0) (ms1 := 0) (st := [vI (T 6 i), vI mm]) (b := 63) [vI ((i : Nat) : Int)] dX0_fillRow_112 mwX5_lastMinute lkX0_49 (by decide) rfl rc_X5 rfl (Nat.le_of_ble_eq_true rfl) (by omega) rfl rfl (c_X5_lastMinute (v1 := (T 6 i)) (v2 := (T 7 i)) (by omega)  ((Fr_v hF (by decide)).trans ((congrArg (h 69) (show (Int.toNat ((i : Nat) : Int)) = i by omega)).trans (hTT.2.2.1 i (by omega)).2.2.2.2.1)) ((Fr_v hF (by decide)).trans ((congrArg (h 70) (show (Int.toNat ((i : Nat) : Int)) = i by omega)).trans (hTT.2.2.1 i (by omega)).2.2.2.2.2.1)) (show 0 ≤ ((i : Nat) : Int) ∧ ((i : Nat) : Int) ≤ 11 by omega) (show 0 ≤ (T 6 i) ∧ (T 6 i) ≤ 1559 by omega) (show 0 ≤ (T 7 i) ∧ (T 7 i) ≤ 30 by omega) ?_)
      show Aj γ mX0_fillRow d 0 0 Post 115 [(4, vI ((i : Nat) : Int)), (3, vI mm), (2, vI ((p : Nat) : Int)), (0, vA 78), (1, vA 63)] [vI ((T 6 i) + (T 7 i)), vI (T 6 i), vI mm] (mk h1 τ)
      refine a_callS (d' := d - 1) (mc' := 0) (ms' := 0) (mc1 := 0) (ms1 := 0) (st := []) [vI mm, vI (T 6 i), vI ((T 6 i) + (T 7 i))] dX0_fillRow_115 mwX8_within lkX0_53 rfl (Nat.le_of_ble_eq_true rfl) (by omega) rfl rfl (c_X8_within  (by omega)    (fun t115_3 => ?_) (fun t115_3 => ?_))
      · have t115_3 : (T 6 i) ≤ mm ∧ mm ≤ ((T 6 i) + (T 7 i)) := t115_3
        show Aj γ mX0_fillRow d 0 0 Post 118 [(4, vI ((i : Nat) : Int)), (3, vI mm), (2, vI ((p : Nat) : Int)), (0, vA 78), (1, vA 63)] [vI 1] (mk h1 τ)
        refine a_if_eq (tgt := 157) dX0_fillRow_118 (by decide) (fun c => absurd c (by decide)) (fun _ => ?_)
        refine a_aload_n (j := 3) dX0_fillRow_121 rfl rfl (Nat.le_of_ble_eq_true rfl) ?_
        refine a_aload_n (j := 4) dX0_fillRow_122 rfl rfl (Nat.le_of_ble_eq_true rfl) ?_
        refine a_aload_n (j := 4) dX0_fillRow_123 rfl rfl (Nat.le_of_ble_eq_true rfl) ?_
        refine b_getp (a := 63) (p := 65) dX0_fillRow_124 fwX0_57 (by decide) rfl (by decide) rfl rfl ?_
        refine a_iload (j := 0) dX0_fillRow_127 rfl ?_
        refine b_iaload (a := 65) (z := T 2 i) i dX0_fillRow_129 (by decide) rfl rfl (by omega) (sp_nil rfl _) ((Fr_v hF (by decide)).trans (hTT.2.2.1 i (by omega)).1) (fun r129_4 => ?_)
        refine a_iload_n (j := 1) dX0_fillRow_130 rfl rfl ?_
        refine b_callV (d' := d - 1) (mc' := 0) (ms' := 0) (mc1 := 0) (ms1 := 0) (st := []) (b := 78) [vA 63, vI (T 2 i), vI mm] dX0_fillRow_131 mwX0_bestTrain lkX0_60 (by decide) rfl rc_X0 rfl (Nat.le_of_ble_eq_true rfl) (by omega) rfl rfl (c_X0_bestTrain_78 (κ := κ) (T := T) (s := T 2 i) (m := mm) (P := (p : Int) - 1) (by omega) ((iq 0 (by decide)).trans hκ0) hκ hT (TT_fr (by decide) hF hTT) (by omega) (by omega) (CHp_o hT hp hC io) (by omega) (fun h9 hG9 j1 j2 => ?_))
        show Aj γ mX0_fillRow d 0 0 Post 134 [(4, vI ((i : Nat) : Int)), (3, vI mm), (2, vI ((p : Nat) : Int)), (0, vA 78), (1, vA 63)] [vI (hsF (TKk κ T (T 2 i) mm))] (mk h9 τ)
        refine a_pop dX0_fillRow_134 (fun h => nomatch h) ?_
        refine a_aload_n (j := 3) dX0_fillRow_135 rfl rfl (Nat.le_of_ble_eq_true rfl) ?_
        refine b_getp (a := 78) (p := 79) dX0_fillRow_136 fwX0_11 (by decide) rfl (by decide) rfl rfl ?_
        refine a_aload_n (j := 4) dX0_fillRow_139 rfl rfl (Nat.le_of_ble_eq_true rfl) ?_
        refine b_getp (a := 63) (p := 65) dX0_fillRow_140 fwX0_57 (by decide) rfl (by decide) rfl rfl ?_
        refine a_iload (j := 0) dX0_fillRow_143 rfl ?_
        refine b_iaload (a := 65) (z := T 2 i) i dX0_fillRow_145 (by decide) rfl rfl (by omega) (sp_nil rfl _) ((Fr_v hG9 (by decide)).trans ((Fr_v hF (by decide)).trans (hTT.2.2.1 i (by omega)).1)) (fun r145_5 => ?_)
        refine a_sipush dX0_fillRow_146 ⟨by decide, by decide, by decide⟩ ?_
        refine a_imul (z := ((T 2 i) * 373)) dX0_fillRow_149 (w_ok (by omega) (by omega)) ?_
        refine a_iload_n (j := 2) dX0_fillRow_150 rfl rfl ?_
        refine a_iadd (z := (((T 2 i) * 373) + ((p : Nat) : Int))) dX0_fillRow_151 (w_ok (by omega) (by omega)) ?_
        refine a_aload_n (j := 3) dX0_fillRow_152 rfl rfl (Nat.le_of_ble_eq_true rfl) ?_
        refine b_get (a := 78) (z := h9 78 3) (t := 0) dX0_fillRow_153 fwX0_64 (by decide) rfl (by decide) rfl rfl rfl ?_
        refine b_iastore (a := 79) (Int.toNat ((T 2 i * 373) + ((p : Nat) : Int))) dX0_fillRow_156 (by decide) rfl (by omega) (by omega) (sp_nil rfl _) ?_
        refine a_iinc (j := 0) (z' := ((i + 1 : Nat) : Int)) (lv' := [(4, vI ((i + 1 : Nat) : Int)), (3, vI mm), (2, vI ((p : Nat) : Int)), (0, vA 78), (1, vA 63)]) dX0_fillRow_157 rfl (w_okN (by omega) (by omega) (by omega)) (by decide) rfl ?_
        refine a_goto (tgt := 92) dX0_fillRow_160 (by decide) ?_
        have hx : ∀ s : Nat, 373 * s + p = Int.toNat ((T 2 i * 373) + ((p : Nat) : Int)) ↔ (s : Int) = T 2 i := fun s => by omega
        refine a_lv (lv' := [(4, vI (((i + 1) : Nat) : Int)), (3, vI mm), (2, vI ((p : Nat) : Int)), (0, vA 78), (1, vA 63)]) (by intro q hq; simp only [List.mem_cons, List.not_mem_nil, or_false] at hq ⊢; rcases hq with rfl | rfl | rfl | rfl | rfl <;> simp) (ih (i + 1) (up2 h9 79 (Int.toNat ((T 2 i * 373) + ((p : Nat) : Int))) (h9 78 3))  (by omega) (by omega) (Fr_u (by decide) (Fr_t (Fr_m (by decide) hF) (Fr_m (by decide) hG9))) (fun s hs hg => by
          by_cases c : (s : Int) = T 2 i
          · left
            rw [(hx s).mpr c, up2_at, j2 (by omega), c, WT_eq hT (by omega), if_neg (by omega)]
          · rw [up2_ne (fun e => c ((hx s).mp e.2)), Fr_v hG9 (by decide)]
            rcases iv s hs hg with q | q
            · exact Or.inl q
            · exact Or.inr ⟨fun u hu he => by
                by_cases cu : u = i
                · subst cu; omega
                · exact q.1 u (by omega) he, q.2⟩) (fun q hq => (up2_ne (fun e => hq (Int.toNat (T 2 i)) (by omega) (by omega))).trans ((Fr_v hG9 (by decide)).trans (io q hq))) (fun k hk => (up2_ne (by omega)).trans ((j1 k hk).trans (iq k hk))))
      · have t115_3 : ¬ ((T 6 i) ≤ mm ∧ mm ≤ ((T 6 i) + (T 7 i))) := t115_3
        show Aj γ mX0_fillRow d 0 0 Post 118 [(4, vI ((i : Nat) : Int)), (3, vI mm), (2, vI ((p : Nat) : Int)), (0, vA 78), (1, vA 63)] [vI 0] (mk h1 τ)
        refine a_if_eq (tgt := 157) dX0_fillRow_118 (by decide) (fun _ => ?_) (fun c => absurd c (by decide))
        refine a_iinc (j := 0) (z' := ((i + 1 : Nat) : Int)) (lv' := [(4, vI ((i + 1 : Nat) : Int)), (3, vI mm), (2, vI ((p : Nat) : Int)), (0, vA 78), (1, vA 63)]) dX0_fillRow_157 rfl (w_okN (by omega) (by omega) (by omega)) (by decide) rfl ?_
        refine a_goto (tgt := 92) dX0_fillRow_160 (by decide) ?_
        refine a_lv (lv' := [(4, vI (((i + 1) : Nat) : Int)), (3, vI mm), (2, vI ((p : Nat) : Int)), (0, vA 78), (1, vA 63)]) (by intro q hq; simp only [List.mem_cons, List.not_mem_nil, or_false] at hq ⊢; rcases hq with rfl | rfl | rfl | rfl | rfl <;> simp) (ih (i + 1) h1  (by omega) (by omega) (Fr_m (by decide) hF) (fun s hs hg => by
          rcases iv s hs hg with q | q
          · exact Or.inl q
          · exact Or.inr ⟨fun u hu he => by
              by_cases cu : u = i
              · subst cu; have hlq : lsT T u = T 6 u + T 7 u := rfl; omega
              · exact q.1 u (by omega) he, q.2⟩) io iq)
set_option maxHeartbeats 8000000 in
theorem l_fr2_78 {γ : GT} {d : Nat} {κ : Int} {T : Nat → Nat → Int} {L n : Nat} {h : Nat → Nat → Int} {τ : List AC} {Post : Option AV → List AC → Prop} (hd : 4 ≤ d) (hκ0 : h 78 0 = κ) (hκ : κ = 0) (hT : tOK T) (hTT : TT h T) (hn : T 0 2 = ((n : Nat) : Int)) (hL : plT T 0 = ((L : Nat) : Int)) (kE : ∀ h', Fr [78, 79] h h' → (∀ k, k ≠ 3 → h' 78 k = h 78 k) → CHp h' 78 κ T (plT T 0) → Post none (mk h' τ)) :
    ∀ (f i : Nat) (h1 : Nat → Nat → Int), i ≤ (L + 1) → (L + 1) < i + f → Fr [78, 79] h h1 → (CHp h1 78 κ T (((i : Nat) : Int) - 1)) → (∀ k, k ≠ 3 → h1 78 k = h 78 k) → (1 ≤ i) → Aj γ mX0_fillRow d 0 0 Post 30 [(2, vI ((i : Nat) : Int)), (0, vA 78), (1, vA 63)] [] (mk h1 τ) := by
  intro f
  induction f with
  | zero => intro i h1  h1_ h2_; omega
  | succ f ih =>
    intro i h1  h1_ h2_ hF ic iq i1
    have hpr := plT_rng hT 0
    refine a_iload_n (j := 0) dX0_fillRow_30 rfl rfl ?_
    refine a_aload_n (j := 2) dX0_fillRow_31 rfl rfl (Nat.le_of_ble_eq_true rfl) ?_
    refine b_get (a := 63) (z := ((L : Nat) : Int)) (t := 0) dX0_fillRow_32 fwX0_37 (by decide) rfl (by decide) rfl rfl ((Fr_v hF (by decide)).trans (hTT.2.2.2.1.trans hL)) ?_
    refine a_icmp_gt (tgt := 169) dX0_fillRow_35 (by decide) (fun c35_1 => ?_) (fun c35_1 => ?_)
    · exact a_vret dX0_fillRow_169 rfl (kE _ hF iq (by
        have e : i = L + 1 := (by omega)
        rw [hL, show ((L : Nat) : Int) = ((i : Nat) : Int) - 1 by omega]; exact ic))
    · obtain ⟨mm, hmm⟩ : ∃ mm, h 73 i = mm := ⟨_, rfl⟩
      have hm4 := hTT.2.2.2.2.2 i (by omega) (by omega)
      rw [hmm] at hm4
      have hm41 := hm4.1
      have hm42 := hm4.2.1
      have hm44 := hm4.2.2.2
      have hp1 := plT_s (T := T) (m := mm) (by omega)
      rw [if_pos hm4.2.2.1] at hp1
      have hp1 : plT T (mm + 1) = (i : Int) - 1 := (by omega)
      refine a_aload_n (j := 2) dX0_fillRow_38 rfl rfl (Nat.le_of_ble_eq_true rfl) ?_
      refine b_getp (a := 63) (p := 73) dX0_fillRow_39 fwX0_40 (by decide) rfl (by decide) rfl rfl ?_
      refine a_iload_n (j := 0) dX0_fillRow_42 rfl rfl ?_
      refine b_iaload (a := 73) (z := mm) i dX0_fillRow_43 (by decide) rfl rfl (by omega) (sp_nil rfl _) ((Fr_v hF (by decide)).trans hmm) (fun r43_2 => ?_)
      refine a_istore_n (lv' := [(3, vI mm), (2, vI ((i : Nat) : Int)), (0, vA 78), (1, vA 63)]) dX0_fillRow_44 rfl (by decide) rfl ?_
      refine a_iconst dX0_fillRow_45 ⟨by decide, by decide⟩ ?_
      refine a_istore (lv' := [(4, vI 0), (3, vI mm), (2, vI ((i : Nat) : Int)), (0, vA 78), (1, vA 63)]) dX0_fillRow_46 (by decide) rfl ?_
      refine a_lv (lv' := [(4, vI ((0 : Nat) : Int)), (3, vI mm), (2, vI ((i : Nat) : Int)), (0, vA 78), (1, vA 63)]) (by intro q hq; simp only [List.mem_cons, List.not_mem_nil, or_false] at hq ⊢; rcases hq with rfl | rfl | rfl | rfl | rfl <;> simp) (l_frA_78 (h := h1) (p := i) hd (by omega) ?_ 7 0 h1 (by omega) (by omega) Fr_r (fun s hs => by omega) (fun q hq => rfl))
      intro h7 x7 hF7 a7 b7
      refine a_iconst dX0_fillRow_89 ⟨by decide, by decide⟩ ?_
      refine a_istore (lv' := [(4, vI 0), (3, vI mm), (2, vI ((i : Nat) : Int)), (0, vA 78), (1, vA 63)]) dX0_fillRow_90 (by decide) rfl ?_
      have iq7 : ∀ k, h7 78 k = h1 78 k := fun k => Fr_v hF7 (by decide)
      have hC7 : CHp h7 78 κ T ((i : Int) - 1) := CHp_o hT (by omega) ic b7
      refine a_lv (lv' := [(4, vI ((0 : Nat) : Int)), (3, vI mm), (2, vI ((i : Nat) : Int)), (0, vA 78), (1, vA 63)]) (by intro q hq; simp only [List.mem_cons, List.not_mem_nil, or_false] at hq ⊢; rcases hq with rfl | rfl | rfl | rfl | rfl <;> simp) (l_frB_78 (h := h7) (p := i) (n := n) (T := T) (κ := κ) hd ((iq7 0).trans ((iq 0 (by decide)).trans hκ0)) hκ hT (TT_fr (by decide) hF7 (TT_fr (by decide) hF hTT)) hn (by omega) (by omega) (by omega) hC7 ?_ (n + 1) 0 h7 (by omega) (by omega) Fr_r (fun s hs hg => ?_) (fun q hq => rfl) (fun k hk => rfl))
      · intro h8 x8 hF8 a8 b8 e8
        refine a_iinc (j := 2) (z' := ((i + 1 : Nat) : Int)) (lv' := [(2, vI ((i + 1 : Nat) : Int)), (4, vI x8), (3, vI mm), (0, vA 78), (1, vA 63)]) dX0_fillRow_163 rfl (w_okN (by omega) (by omega) (by omega)) (by decide) rfl ?_
        refine a_goto (tgt := 30) dX0_fillRow_166 (by decide) ?_
        refine a_lv (lv' := [(2, vI (((i + 1) : Nat) : Int)), (0, vA 78), (1, vA 63)]) (by intro q hq; simp only [List.mem_cons, List.not_mem_nil, or_false] at hq ⊢; rcases hq with rfl | rfl | rfl <;> simp) (ih (i + 1) h8  (by omega) (by omega) (Fr_t (Fr_t (Fr_m (by decide) hF) (Fr_m (by decide) hF7)) (Fr_m (by decide) hF8)) (by
          have hnew : CHp h8 78 κ T (i : Int) := CHp_s (h := h1) (mm := mm) hT (by omega) (by omega) (by omega) ic (fun q hq => (b8 q hq).trans (b7 q hq)) (fun s hs hg => by
            rcases a8 s hs hg with q | q
            · exact q
            · rw [q.2, WT_next hT hg (by omega) (fun u hu he => q.1 u (by omega) he)])
          rw [show (((i + 1 : Nat) : Int)) - 1 = (i : Int) by omega]
          exact hnew) (fun k hk => (e8 k hk).trans ((iq7 k).trans (iq k hk))) (by omega))
      · refine Or.inr ⟨fun u hu => by omega, ?_⟩
        rw [a7 s hs]
        have hq := ic (s : Int) (mm + 1) (by omega) (by omega) hg (by omega) (by omega) (by omega)
        rw [hp1, show Int.toNat ((s : Int) * 373 + ((i : Int) - 1)) = 373 * s + (i - 1) by omega] at hq
        exact hq
theorem c_X0_fillRow_78 {γ : GT} {d : Nat} {κ : Int} {T : Nat → Nat → Int} {h : Nat → Nat → Int} {τ : List AC} {Post : Option AV → List AC → Prop} (hd : 4 ≤ d) (hκ0 : h 78 0 = κ) (hκ : κ = 0) (hT : tOK T) (hTT : TT h T) (kQ : ∀ h', Fr [78, 79] h h' → (∀ k, k ≠ 3 → h' 78 k = h 78 k) → CHp h' 78 κ T (plT T 0) → Post none (mk h' τ)) : Cj γ mX0_fillRow d 0 0 [vA 78, vA 63] (mk h τ) Post := by
  have h2_ := hT.2.2.1
  have hpr := plT_rng hT 0
  obtain ⟨n, hn⟩ : ∃ n : Nat, T 0 2 = (n : Int) := ⟨Int.toNat (T 0 2), by omega⟩
  obtain ⟨L, hL⟩ : ∃ L : Nat, plT T 0 = (L : Int) := ⟨Int.toNat (plT T 0), by omega⟩
  refine c_of (by decide) (Nat.le_of_ble_eq_true rfl) ?_
  show Aj γ mX0_fillRow d 0 0 Post 0 [(0, vA 78), (1, vA 63)] [] (mk h τ)
  refine a_iconst dX0_fillRow_0 ⟨by decide, by decide⟩ ?_
  refine a_istore_n (lv' := [(2, vI 0), (0, vA 78), (1, vA 63)]) dX0_fillRow_1 rfl (by decide) rfl ?_
  refine a_lv (lv' := [(2, vI ((0 : Nat) : Int)), (0, vA 78), (1, vA 63)]) (by intro q hq; simp only [List.mem_cons, List.not_mem_nil, or_false] at hq ⊢; rcases hq with rfl | rfl | rfl <;> simp) (l_fr1_78 (T := T) (h := h) (κ := κ) hd hκ0 ?_ 7 0 h (by omega) (by omega) Fr_r (fun s hs => by omega))
  intro h7 x7 hF7 a7
  refine a_iconst dX0_fillRow_28 ⟨by decide, by decide⟩ ?_
  refine a_istore_n (lv' := [(2, vI 1), (0, vA 78), (1, vA 63)]) dX0_fillRow_29 rfl (by decide) rfl ?_
  exact a_lv (lv' := [(2, vI ((1 : Nat) : Int)), (0, vA 78), (1, vA 63)]) (by intro q hq; simp only [List.mem_cons, List.not_mem_nil, or_false] at hq ⊢; rcases hq with rfl | rfl | rfl <;> simp) (l_fr2_78 (h := h7) (L := L) (n := n) (κ := κ) (T := T) hd ((Fr_v hF7 (by decide)).trans hκ0) hκ hT (TT_fr (by decide) hF7 hTT) hn hL (fun h' hF hk hc => kQ h' (Fr_t (Fr_m (by decide) hF7) hF) (fun k hk' => (hk k hk').trans (Fr_v hF7 (by decide))) hc) (L + 2) 1 h7 (by omega) (by omega) Fr_r (CHp_0 hT a7) (fun k hk => rfl) (by omega))
theorem c_X0_drawnFor_78 {γ : GT} {d : Nat} {κ : Int} {w : Nat} {N : Nat → Int} {h : Nat → Nat → Int} {τ : List AC} {Post : Option AV → List AC → Prop} (hd : 5 ≤ d) (hw : isWd w) (hR : WR h τ w N) (hv : NV N) (hκ0 : h 78 0 = κ) (hκ : κ = 0) (hTT : h 63 0 = h w 0 → TT h (tt N)) (hCH : h 78 2 = h w 0 → CHp h 78 κ (tt N) (plT (tt N) 0)) (kQ : ∀ h', Fr [63, 64, 65, 66, 67, 68, 69, 70, 71, 72, 73, 74, 75, 78, 79] h h' → h' 63 0 = h w 0 → h' 63 17 = h 63 17 → h' 63 18 = h 63 18 → TT h' (tt N) → h' 78 0 = κ → h' 78 2 = h w 0 → CHp h' 78 κ (tt N) (plT (tt N) 0) → Post (some (vA 78)) (mk h' τ)) : Cj γ mX0_drawnFor d 0 0 [vA 78, vA 63, vA w] (mk h τ) Post := by
  have hw_ : w = 1 ∨ w = 32 := hw
  refine c_of (by decide) (Nat.le_of_ble_eq_true rfl) ?_
  show Aj γ mX0_drawnFor d 0 0 Post 0 [(0, vA 78), (1, vA 63), (2, vA w)] [] (mk h τ)
  refine a_aload_n (j := 1) dX0_drawnFor_0 rfl rfl (Nat.le_of_ble_eq_true rfl) ?_
  refine a_aload_n (j := 2) dX0_drawnFor_1 rfl rfl (Nat.le_of_ble_eq_true rfl) ?_
  refine b_callV (d' := d - 1) (mc' := 0) (ms' := 0) (mc1 := 0) (ms1 := 0) (st := []) (b := 63) [vA w] dX0_drawnFor_2 mwX5_refresh lkX0_22 (by decide) rfl rc_X5 rfl (Nat.le_of_ble_eq_true rfl) (by omega) rfl rfl (c_X5_refresh (N := N) (by omega) hw hR hv hTT (fun h7 hF7 a7 b7 e7 t7 => ?_))
  show Aj γ mX0_drawnFor d 0 0 Post 5 [(0, vA 78), (1, vA 63), (2, vA w)] [] (mk h7 τ)
  refine a_aload_n (j := 0) dX0_drawnFor_5 rfl rfl (Nat.le_of_ble_eq_true rfl) ?_
  refine b_get (a := 78) (z := h 78 2) (t := 0) dX0_drawnFor_6 fwX0_15 (by decide) rfl (by decide) rfl rfl ((Fr_v hF7 (by decide)).trans rfl) ?_
  refine a_aload_n (j := 1) dX0_drawnFor_9 rfl rfl (Nat.le_of_ble_eq_true rfl) ?_
  refine b_get (a := 63) (z := h w 0) (t := 0) dX0_drawnFor_10 fwX0_28 (by decide) rfl (by decide) rfl rfl a7 ?_
  refine a_icmp_eq (tgt := 29) dX0_drawnFor_13 (by decide) (fun c13_1 => ?_) (fun c13_1 => ?_)
  · refine a_aload_n (j := 0) dX0_drawnFor_29 rfl rfl (Nat.le_of_ble_eq_true rfl) ?_
    exact a_aret dX0_drawnFor_30 rfl (Or.inl ⟨_, rfl⟩) (Nat.le_of_ble_eq_true rfl) (kQ h7 (Fr_m (by decide) hF7) a7 b7 e7 t7 ((Fr_v hF7 (by decide)).trans hκ0) ((Fr_v hF7 (by decide)).trans (by omega)) (CHp_fr (hF7 79 (by decide)) (hCH (by omega))))
  · refine a_aload_n (j := 0) dX0_drawnFor_16 rfl rfl (Nat.le_of_ble_eq_true rfl) ?_
    refine a_aload_n (j := 1) dX0_drawnFor_17 rfl rfl (Nat.le_of_ble_eq_true rfl) ?_
    refine b_get (a := 63) (z := h w 0) (t := 0) dX0_drawnFor_18 fwX0_28 (by decide) rfl (by decide) rfl rfl a7 ?_
    refine b_put (a := 78) (v := vI (h w 0)) dX0_drawnFor_21 pwX0_15 (fun h => nomatch h) (by decide) rfl (by decide) rfl rfl (fit_int _) ?_
    show Aj γ mX0_drawnFor d 0 0 Post 24 [(0, vA 78), (1, vA 63), (2, vA w)] [] (mk (up2 h7 78 2 (h w 0)) τ)
    refine a_aload_n (j := 0) dX0_drawnFor_24 rfl rfl (Nat.le_of_ble_eq_true rfl) ?_
    refine a_aload_n (j := 1) dX0_drawnFor_25 rfl rfl (Nat.le_of_ble_eq_true rfl) ?_
    refine b_callV (d' := d - 1) (mc' := 0) (ms' := 0) (mc1 := 0) (ms1 := 0) (st := []) (b := 78) [vA 63] dX0_drawnFor_26 mwX0_fillRow lkX0_29 (by decide) rfl rc_X0 rfl (Nat.le_of_ble_eq_true rfl) (by omega) rfl rfl (c_X0_fillRow_78 (κ := κ) (T := tt N) (by omega) ((up2_ne (by decide)).trans ((Fr_v hF7 (by decide)).trans hκ0)) hκ (tt_OK hv) (TT_fr (L := [78]) (by decide) (Fr_u (by decide) Fr_r) t7) (fun h8 hF8 j8 k8 => ?_))
    show Aj γ mX0_drawnFor d 0 0 Post 29 [(0, vA 78), (1, vA 63), (2, vA w)] [] (mk h8 τ)
    refine a_aload_n (j := 0) dX0_drawnFor_29 rfl rfl (Nat.le_of_ble_eq_true rfl) ?_
    exact a_aret dX0_drawnFor_30 rfl (Or.inl ⟨_, rfl⟩) (Nat.le_of_ble_eq_true rfl) (kQ h8 (Fr_t (Fr_m (by decide) hF7) (Fr_t (Fr_u (by decide) Fr_r) (Fr_m (by decide) hF8))) ((Fr_v hF8 (by decide)).trans ((up2_ne (by decide)).trans a7)) ((Fr_v hF8 (by decide)).trans ((up2_ne (by decide)).trans b7)) ((Fr_v hF8 (by decide)).trans ((up2_ne (by decide)).trans e7)) (TT_fr (by decide) hF8 (TT_fr (L := [78]) (by decide) (Fr_u (by decide) Fr_r) t7)) ((j8 0 (by decide)).trans ((up2_ne (by decide)).trans ((Fr_v hF7 (by decide)).trans hκ0))) ((j8 2 (by decide)).trans up2_at) k8)
set_option maxHeartbeats 8000000 in
theorem l_fr1_80 {γ : GT} {d : Nat} {κ : Int} {T : Nat → Nat → Int} {h : Nat → Nat → Int} {τ : List AC} {Post : Option AV → List AC → Prop} (hd : 4 ≤ d) (hκ0 : h 80 0 = κ) (kE : ∀ h' x, Fr [81] h h' → (∀ s : Nat, s < 6 → h' 81 (373 * s) = wonF κ) → Aj γ mX0_fillRow d 0 0 Post 28 [(2, vI x), (0, vA 80), (1, vA 63)] [] (mk h' τ)) :
    ∀ (f i : Nat) (h1 : Nat → Nat → Int), i ≤ 6 → 6 < i + f → Fr [81] h h1 → (∀ s : Nat, s < i → h1 81 (373 * s) = wonF κ) → Aj γ mX0_fillRow d 0 0 Post 2 [(2, vI ((i : Nat) : Int)), (0, vA 80), (1, vA 63)] [] (mk h1 τ) := by
  intro f
  induction f with
  | zero => intro i h1  h1_ h2_; omega
  | succ f ih =>
    intro i h1  h1_ h2_ hF iv
    refine a_iload_n (j := 0) dX0_fillRow_2 rfl rfl ?_
    refine a_bipush dX0_fillRow_3 ⟨by decide, by decide, by decide⟩ ?_
    refine a_icmp_ge (tgt := 28) dX0_fillRow_5 (by decide) (fun c5_1 => ?_) (fun c5_1 => ?_)
    · exact kE _ _ hF (fun s hs => iv s (by omega))
    · refine a_aload_n (j := 1) dX0_fillRow_8 rfl rfl (Nat.le_of_ble_eq_true rfl) ?_
      refine b_getp (a := 80) (p := 81) dX0_fillRow_9 fwX0_11 (by decide) rfl (by decide) rfl rfl ?_
      refine a_iload_n (j := 0) dX0_fillRow_12 rfl rfl ?_
      refine a_sipush dX0_fillRow_13 ⟨by decide, by decide, by decide⟩ ?_
      refine a_imul (z := (((i : Nat) : Int) * 373)) dX0_fillRow_16 (w_ok (by omega) (by omega)) ?_
      refine a_aload_n (j := 1) dX0_fillRow_17 rfl rfl (Nat.le_of_ble_eq_true rfl) ?_
      refine b_callV (d' := d - 1) (mc' := 0) (ms' := 0) (mc1 := 0) (ms1 := 0) (st := [vI (((i : Nat) : Int) * 373), vA 81]) (b := 80) [] dX0_fillRow_18 mwX0_worthOfNone lkX0_33 (by decide) rfl rc_X0 rfl (Nat.le_of_ble_eq_true rfl) (by omega) rfl rfl (c_X0_worthOfNone (v1 := κ) (by omega) (Or.inr (Or.inl rfl)) ((Fr_v hF (by decide)).trans hκ0)  ?_)
      show Aj γ mX0_fillRow d 0 0 Post 21 [(2, vI ((i : Nat) : Int)), (0, vA 80), (1, vA 63)] [vI (wonF κ), vI (((i : Nat) : Int) * 373), vA 81] (mk h1 τ)
      refine b_iastore (a := 81) (373 * i) dX0_fillRow_21 (by decide) rfl (by omega) (by omega) (sp_nil rfl _) ?_
      refine a_iinc (j := 0) (z' := ((i + 1 : Nat) : Int)) (lv' := [(2, vI ((i + 1 : Nat) : Int)), (0, vA 80), (1, vA 63)]) dX0_fillRow_22 rfl (w_okN (by omega) (by omega) (by omega)) (by decide) rfl ?_
      refine a_goto (tgt := 2) dX0_fillRow_25 (by decide) ?_
      refine a_lv (lv' := [(2, vI (((i + 1) : Nat) : Int)), (0, vA 80), (1, vA 63)]) (by intro q hq; simp only [List.mem_cons, List.not_mem_nil, or_false] at hq ⊢; rcases hq with rfl | rfl | rfl <;> simp) (ih (i + 1) (up2 h1 81 (373 * i) (wonF κ))  (by omega) (by omega) (Fr_u (by decide) (Fr_m (by decide) hF)) (fun s hs => by
          by_cases c : s = i
          · subst c; exact up2_at
          · exact (up2_ne (by omega)).trans (iv s (by omega))))
set_option maxHeartbeats 8000000 in
theorem l_frA_80 {γ : GT} {d : Nat} {p : Nat} {mm : Int} {h : Nat → Nat → Int} {τ : List AC} {Post : Option AV → List AC → Prop} (hd : 4 ≤ d) (hp : 1 ≤ p ∧ p ≤ 372) (kE : ∀ h' x, Fr [81] h h' → (∀ s : Nat, s < 6 → h' 81 (373 * s + p) = h 81 (373 * s + (p - 1))) → (∀ q : Nat, (∀ s : Nat, s < 6 → q ≠ 373 * s + p) → h' 81 q = h 81 q) → Aj γ mX0_fillRow d 0 0 Post 89 [(4, vI x), (3, vI mm), (2, vI ((p : Nat) : Int)), (0, vA 80), (1, vA 63)] [] (mk h' τ)) :
    ∀ (f i : Nat) (h1 : Nat → Nat → Int), i ≤ 6 → 6 < i + f → Fr [81] h h1 → (∀ s : Nat, s < i → h1 81 (373 * s + p) = h 81 (373 * s + (p - 1))) → (∀ q : Nat, (∀ s : Nat, s < 6 → q ≠ 373 * s + p) → h1 81 q = h 81 q) → Aj γ mX0_fillRow d 0 0 Post 48 [(4, vI ((i : Nat) : Int)), (3, vI mm), (2, vI ((p : Nat) : Int)), (0, vA 80), (1, vA 63)] [] (mk h1 τ) := by
  intro f
  induction f with
  | zero => intro i h1  h1_ h2_; omega
  | succ f ih =>
    intro i h1  h1_ h2_ hF iv io
    refine a_iload (j := 0) dX0_fillRow_48 rfl ?_
    refine a_bipush dX0_fillRow_50 ⟨by decide, by decide, by decide⟩ ?_
    refine a_icmp_ge (tgt := 89) dX0_fillRow_52 (by decide) (fun c52_1 => ?_) (fun c52_1 => ?_)
    · exact kE _ _ hF (fun s hs => iv s (by omega)) io
    · refine a_aload_n (j := 3) dX0_fillRow_55 rfl rfl (Nat.le_of_ble_eq_true rfl) ?_
      refine b_getp (a := 80) (p := 81) dX0_fillRow_56 fwX0_11 (by decide) rfl (by decide) rfl rfl ?_
      refine a_iload (j := 0) dX0_fillRow_59 rfl ?_
      refine a_sipush dX0_fillRow_61 ⟨by decide, by decide, by decide⟩ ?_
      refine a_imul (z := (((i : Nat) : Int) * 373)) dX0_fillRow_64 (w_ok (by omega) (by omega)) ?_
      refine a_iload_n (j := 2) dX0_fillRow_65 rfl rfl ?_
      refine a_iadd (z := ((((i : Nat) : Int) * 373) + ((p : Nat) : Int))) dX0_fillRow_66 (w_ok (by omega) (by omega)) ?_
      refine a_aload_n (j := 3) dX0_fillRow_67 rfl rfl (Nat.le_of_ble_eq_true rfl) ?_
      refine b_getp (a := 80) (p := 81) dX0_fillRow_68 fwX0_11 (by decide) rfl (by decide) rfl rfl ?_
      refine a_iload (j := 0) dX0_fillRow_71 rfl ?_
      refine a_sipush dX0_fillRow_73 ⟨by decide, by decide, by decide⟩ ?_
      refine a_imul (z := (((i : Nat) : Int) * 373)) dX0_fillRow_76 (w_ok (by omega) (by omega)) ?_
      refine a_iload_n (j := 2) dX0_fillRow_77 rfl rfl ?_
      refine a_iadd (z := ((((i : Nat) : Int) * 373) + ((p : Nat) : Int))) dX0_fillRow_78 (w_ok (by omega) (by omega)) ?_
      refine a_iconst dX0_fillRow_79 ⟨by decide, by decide⟩ ?_
      refine a_isub (z := (((((i : Nat) : Int) * 373) + ((p : Nat) : Int)) - 1)) dX0_fillRow_80 (w_ok (by omega) (by omega)) ?_
      refine b_iaload (a := 81) (z := h 81 (373 * i + (p - 1))) (373 * i + (p - 1)) dX0_fillRow_81 (by decide) rfl (by omega) (by omega) (sp_nil rfl _) (io _ (fun s hs => by omega)) (fun r81_2 => ?_)
      refine b_iastore (a := 81) (373 * i + p) dX0_fillRow_82 (by decide) rfl (by omega) (by omega) (sp_nil rfl _) ?_
      refine a_iinc (j := 0) (z' := ((i + 1 : Nat) : Int)) (lv' := [(4, vI ((i + 1 : Nat) : Int)), (3, vI mm), (2, vI ((p : Nat) : Int)), (0, vA 80), (1, vA 63)]) dX0_fillRow_83 rfl (w_okN (by omega) (by omega) (by omega)) (by decide) rfl ?_
      refine a_goto (tgt := 48) dX0_fillRow_86 (by decide) ?_
      refine a_lv (lv' := [(4, vI (((i + 1) : Nat) : Int)), (3, vI mm), (2, vI ((p : Nat) : Int)), (0, vA 80), (1, vA 63)]) (by intro q hq; simp only [List.mem_cons, List.not_mem_nil, or_false] at hq ⊢; rcases hq with rfl | rfl | rfl | rfl | rfl <;> simp) (ih (i + 1) (up2 h1 81 (373 * i + p) (h 81 (373 * i + (p - 1))))  (by omega) (by omega) (Fr_u (by decide) (Fr_m (by decide) hF)) (fun s hs => by
          by_cases c : s = i
          · subst c; exact up2_at
          · exact (up2_ne (by omega)).trans (iv s (by omega))) (fun q hq => (up2_ne (fun e => hq i (by omega) e.2)).trans (io q hq)))
set_option maxHeartbeats 8000000 in
theorem l_frB_80 {γ : GT} {d : Nat} {κ : Int} {T : Nat → Nat → Int} {p n : Nat} {mm : Int} {h : Nat → Nat → Int} {τ : List AC} {Post : Option AV → List AC → Prop} (hd : 4 ≤ d) (hκ0 : h 80 0 = κ) (hκ : κ = 1) (hT : tOK T) (hTT : TT h T) (hn : T 0 2 = ((n : Nat) : Int)) (hp : 1 ≤ p ∧ p ≤ 372) (hm : 0 ≤ mm ∧ mm ≤ 1589) (hpl : plT T (mm + 1) ≤ (p : Int) - 1) (hC : CHp h 80 κ T ((p : Int) - 1)) (kE : ∀ h' x, Fr [80, 81] h h' → (∀ s : Nat, s < 6 → ¬ (s : Int) = T 0 0 → h' 81 (373 * s + p) = WT κ T s mm ∨ ((∀ u : Nat, u < n → T 2 u = (s : Int) → ¬ (T 6 u ≤ mm ∧ mm ≤ lsT T u)) ∧ h' 81 (373 * s + p) = WT κ T s (mm + 1))) → (∀ q : Nat, (∀ s : Nat, s < 6 → q ≠ 373 * s + p) → h' 81 q = h 81 q) → (∀ k, k ≠ 3 → h' 80 k = h 80 k) → Aj γ mX0_fillRow d 0 0 Post 163 [(4, vI x), (3, vI mm), (2, vI ((p : Nat) : Int)), (0, vA 80), (1, vA 63)] [] (mk h' τ)) :
    ∀ (f i : Nat) (h1 : Nat → Nat → Int), i ≤ n → n < i + f → Fr [80, 81] h h1 → (∀ s : Nat, s < 6 → ¬ (s : Int) = T 0 0 → h1 81 (373 * s + p) = WT κ T s mm ∨ ((∀ u : Nat, u < i → T 2 u = (s : Int) → ¬ (T 6 u ≤ mm ∧ mm ≤ lsT T u)) ∧ h1 81 (373 * s + p) = WT κ T s (mm + 1))) → (∀ q : Nat, (∀ s : Nat, s < 6 → q ≠ 373 * s + p) → h1 81 q = h 81 q) → (∀ k, k ≠ 3 → h1 80 k = h 80 k) → Aj γ mX0_fillRow d 0 0 Post 92 [(4, vI ((i : Nat) : Int)), (3, vI mm), (2, vI ((p : Nat) : Int)), (0, vA 80), (1, vA 63)] [] (mk h1 τ) := by
  intro f
  induction f with
  | zero => intro i h1  h1_ h2_; omega
  | succ f ih =>
    intro i h1  h1_ h2_ hF iv io iq
    have h2_ := hT.2.2.1
    have hb := hT.2.2.2.2.2 i
    have hb1 := hb.1
    have hb6 := hb.2.2.2.2.1
    have hb7 := hb.2.2.2.2.2.1
    refine a_iload (j := 0) dX0_fillRow_92 rfl ?_
    refine a_aload_n (j := 4) dX0_fillRow_94 rfl rfl (Nat.le_of_ble_eq_true rfl) ?_
    refine b_get (a := 63) (z := ((n : Nat) : Int)) (t := 0) dX0_fillRow_95 fwX0_43 (by decide) rfl (by decide) rfl rfl ((Fr_v hF (by decide)).trans (hTT.1.2.2.trans hn)) ?_
    refine a_icmp_ge (tgt := 163) dX0_fillRow_98 (by decide) (fun c98_1 => ?_) (fun c98_1 => ?_)
    · obtain rfl : i = n := (by omega)
      exact kE _ _ hF iv io iq
    · refine a_iload_n (j := 1) dX0_fillRow_101 rfl rfl ?_
      refine a_aload_n (j := 4) dX0_fillRow_102 rfl rfl (Nat.le_of_ble_eq_true rfl) ?_
      refine b_getp (a := 63) (p := 69) dX0_fillRow_103 fwX0_46 (by decide) rfl (by decide) rfl rfl ?_
      refine a_iload (j := 0) dX0_fillRow_106 rfl ?_
      refine b_iaload (a := 69) (z := T 6 i) i dX0_fillRow_108 (by decide) rfl rfl (by omega) (sp_nil rfl _) ((Fr_v hF (by decide)).trans (hTT.2.2.1 i (by omega)).2.2.2.2.1) (fun r108_2 => ?_)
      refine a_aload_n (j := 4) dX0_fillRow_109 rfl rfl (Nat.le_of_ble_eq_true rfl) ?_
      refine a_iload (j := 0) dX0_fillRow_110 rfl ?_
      refine b_callV (d' := d - 1) (mc' := 0) (ms' := 0) (mc1 := 0) (ms1 := 0) (st := [vI (T 6 i), vI mm]) (b := 63) [vI ((i : Nat) : Int)] dX0_fillRow_112 mwX5_lastMinute lkX0_49 (by decide) rfl rc_X5 rfl (Nat.le_of_ble_eq_true rfl) (by omega) rfl rfl (c_X5_lastMinute (v1 := (T 6 i)) (v2 := (T 7 i)) (by omega)  ((Fr_v hF (by decide)).trans ((congrArg (h 69) (show (Int.toNat ((i : Nat) : Int)) = i by omega)).trans (hTT.2.2.1 i (by omega)).2.2.2.2.1)) ((Fr_v hF (by decide)).trans ((congrArg (h 70) (show (Int.toNat ((i : Nat) : Int)) = i by omega)).trans (hTT.2.2.1 i (by omega)).2.2.2.2.2.1)) (show 0 ≤ ((i : Nat) : Int) ∧ ((i : Nat) : Int) ≤ 11 by omega) (show 0 ≤ (T 6 i) ∧ (T 6 i) ≤ 1559 by omega) (show 0 ≤ (T 7 i) ∧ (T 7 i) ≤ 30 by omega) ?_)
      show Aj γ mX0_fillRow d 0 0 Post 115 [(4, vI ((i : Nat) : Int)), (3, vI mm), (2, vI ((p : Nat) : Int)), (0, vA 80), (1, vA 63)] [vI ((T 6 i) + (T 7 i)), vI (T 6 i), vI mm] (mk h1 τ)
      refine a_callS (d' := d - 1) (mc' := 0) (ms' := 0) (mc1 := 0) (ms1 := 0) (st := []) [vI mm, vI (T 6 i), vI ((T 6 i) + (T 7 i))] dX0_fillRow_115 mwX8_within lkX0_53 rfl (Nat.le_of_ble_eq_true rfl) (by omega) rfl rfl (c_X8_within  (by omega)    (fun t115_3 => ?_) (fun t115_3 => ?_))
      · have t115_3 : (T 6 i) ≤ mm ∧ mm ≤ ((T 6 i) + (T 7 i)) := t115_3
        show Aj γ mX0_fillRow d 0 0 Post 118 [(4, vI ((i : Nat) : Int)), (3, vI mm), (2, vI ((p : Nat) : Int)), (0, vA 80), (1, vA 63)] [vI 1] (mk h1 τ)
        refine a_if_eq (tgt := 157) dX0_fillRow_118 (by decide) (fun c => absurd c (by decide)) (fun _ => ?_)
        refine a_aload_n (j := 3) dX0_fillRow_121 rfl rfl (Nat.le_of_ble_eq_true rfl) ?_
        refine a_aload_n (j := 4) dX0_fillRow_122 rfl rfl (Nat.le_of_ble_eq_true rfl) ?_
        refine a_aload_n (j := 4) dX0_fillRow_123 rfl rfl (Nat.le_of_ble_eq_true rfl) ?_
        refine b_getp (a := 63) (p := 65) dX0_fillRow_124 fwX0_57 (by decide) rfl (by decide) rfl rfl ?_
        refine a_iload (j := 0) dX0_fillRow_127 rfl ?_
        refine b_iaload (a := 65) (z := T 2 i) i dX0_fillRow_129 (by decide) rfl rfl (by omega) (sp_nil rfl _) ((Fr_v hF (by decide)).trans (hTT.2.2.1 i (by omega)).1) (fun r129_4 => ?_)
        refine a_iload_n (j := 1) dX0_fillRow_130 rfl rfl ?_
        refine b_callV (d' := d - 1) (mc' := 0) (ms' := 0) (mc1 := 0) (ms1 := 0) (st := []) (b := 80) [vA 63, vI (T 2 i), vI mm] dX0_fillRow_131 mwX0_bestTrain lkX0_60 (by decide) rfl rc_X0 rfl (Nat.le_of_ble_eq_true rfl) (by omega) rfl rfl (c_X0_bestTrain_80 (κ := κ) (T := T) (s := T 2 i) (m := mm) (P := (p : Int) - 1) (by omega) ((iq 0 (by decide)).trans hκ0) hκ hT (TT_fr (by decide) hF hTT) (by omega) (by omega) (CHp_o hT hp hC io) (by omega) (fun h9 hG9 j1 j2 => ?_))
        show Aj γ mX0_fillRow d 0 0 Post 134 [(4, vI ((i : Nat) : Int)), (3, vI mm), (2, vI ((p : Nat) : Int)), (0, vA 80), (1, vA 63)] [vI (hsF (TKk κ T (T 2 i) mm))] (mk h9 τ)
        refine a_pop dX0_fillRow_134 (fun h => nomatch h) ?_
        refine a_aload_n (j := 3) dX0_fillRow_135 rfl rfl (Nat.le_of_ble_eq_true rfl) ?_
        refine b_getp (a := 80) (p := 81) dX0_fillRow_136 fwX0_11 (by decide) rfl (by decide) rfl rfl ?_
        refine a_aload_n (j := 4) dX0_fillRow_139 rfl rfl (Nat.le_of_ble_eq_true rfl) ?_
        refine b_getp (a := 63) (p := 65) dX0_fillRow_140 fwX0_57 (by decide) rfl (by decide) rfl rfl ?_
        refine a_iload (j := 0) dX0_fillRow_143 rfl ?_
        refine b_iaload (a := 65) (z := T 2 i) i dX0_fillRow_145 (by decide) rfl rfl (by omega) (sp_nil rfl _) ((Fr_v hG9 (by decide)).trans ((Fr_v hF (by decide)).trans (hTT.2.2.1 i (by omega)).1)) (fun r145_5 => ?_)
        refine a_sipush dX0_fillRow_146 ⟨by decide, by decide, by decide⟩ ?_
        refine a_imul (z := ((T 2 i) * 373)) dX0_fillRow_149 (w_ok (by omega) (by omega)) ?_
        refine a_iload_n (j := 2) dX0_fillRow_150 rfl rfl ?_
        refine a_iadd (z := (((T 2 i) * 373) + ((p : Nat) : Int))) dX0_fillRow_151 (w_ok (by omega) (by omega)) ?_
        refine a_aload_n (j := 3) dX0_fillRow_152 rfl rfl (Nat.le_of_ble_eq_true rfl) ?_
        refine b_get (a := 80) (z := h9 80 3) (t := 0) dX0_fillRow_153 fwX0_64 (by decide) rfl (by decide) rfl rfl rfl ?_
        refine b_iastore (a := 81) (Int.toNat ((T 2 i * 373) + ((p : Nat) : Int))) dX0_fillRow_156 (by decide) rfl (by omega) (by omega) (sp_nil rfl _) ?_
        refine a_iinc (j := 0) (z' := ((i + 1 : Nat) : Int)) (lv' := [(4, vI ((i + 1 : Nat) : Int)), (3, vI mm), (2, vI ((p : Nat) : Int)), (0, vA 80), (1, vA 63)]) dX0_fillRow_157 rfl (w_okN (by omega) (by omega) (by omega)) (by decide) rfl ?_
        refine a_goto (tgt := 92) dX0_fillRow_160 (by decide) ?_
        have hx : ∀ s : Nat, 373 * s + p = Int.toNat ((T 2 i * 373) + ((p : Nat) : Int)) ↔ (s : Int) = T 2 i := fun s => by omega
        refine a_lv (lv' := [(4, vI (((i + 1) : Nat) : Int)), (3, vI mm), (2, vI ((p : Nat) : Int)), (0, vA 80), (1, vA 63)]) (by intro q hq; simp only [List.mem_cons, List.not_mem_nil, or_false] at hq ⊢; rcases hq with rfl | rfl | rfl | rfl | rfl <;> simp) (ih (i + 1) (up2 h9 81 (Int.toNat ((T 2 i * 373) + ((p : Nat) : Int))) (h9 80 3))  (by omega) (by omega) (Fr_u (by decide) (Fr_t (Fr_m (by decide) hF) (Fr_m (by decide) hG9))) (fun s hs hg => by
          by_cases c : (s : Int) = T 2 i
          · left
            rw [(hx s).mpr c, up2_at, j2 (by omega), c, WT_eq hT (by omega), if_neg (by omega)]
          · rw [up2_ne (fun e => c ((hx s).mp e.2)), Fr_v hG9 (by decide)]
            rcases iv s hs hg with q | q
            · exact Or.inl q
            · exact Or.inr ⟨fun u hu he => by
                by_cases cu : u = i
                · subst cu; omega
                · exact q.1 u (by omega) he, q.2⟩) (fun q hq => (up2_ne (fun e => hq (Int.toNat (T 2 i)) (by omega) (by omega))).trans ((Fr_v hG9 (by decide)).trans (io q hq))) (fun k hk => (up2_ne (by omega)).trans ((j1 k hk).trans (iq k hk))))
      · have t115_3 : ¬ ((T 6 i) ≤ mm ∧ mm ≤ ((T 6 i) + (T 7 i))) := t115_3
        show Aj γ mX0_fillRow d 0 0 Post 118 [(4, vI ((i : Nat) : Int)), (3, vI mm), (2, vI ((p : Nat) : Int)), (0, vA 80), (1, vA 63)] [vI 0] (mk h1 τ)
        refine a_if_eq (tgt := 157) dX0_fillRow_118 (by decide) (fun _ => ?_) (fun c => absurd c (by decide))
        refine a_iinc (j := 0) (z' := ((i + 1 : Nat) : Int)) (lv' := [(4, vI ((i + 1 : Nat) : Int)), (3, vI mm), (2, vI ((p : Nat) : Int)), (0, vA 80), (1, vA 63)]) dX0_fillRow_157 rfl (w_okN (by omega) (by omega) (by omega)) (by decide) rfl ?_
        refine a_goto (tgt := 92) dX0_fillRow_160 (by decide) ?_
        refine a_lv (lv' := [(4, vI (((i + 1) : Nat) : Int)), (3, vI mm), (2, vI ((p : Nat) : Int)), (0, vA 80), (1, vA 63)]) (by intro q hq; simp only [List.mem_cons, List.not_mem_nil, or_false] at hq ⊢; rcases hq with rfl | rfl | rfl | rfl | rfl <;> simp) (ih (i + 1) h1  (by omega) (by omega) (Fr_m (by decide) hF) (fun s hs hg => by
          rcases iv s hs hg with q | q
          · exact Or.inl q
          · exact Or.inr ⟨fun u hu he => by
              by_cases cu : u = i
              · subst cu; have hlq : lsT T u = T 6 u + T 7 u := rfl; omega
              · exact q.1 u (by omega) he, q.2⟩) io iq)
set_option maxHeartbeats 8000000 in
theorem l_fr2_80 {γ : GT} {d : Nat} {κ : Int} {T : Nat → Nat → Int} {L n : Nat} {h : Nat → Nat → Int} {τ : List AC} {Post : Option AV → List AC → Prop} (hd : 4 ≤ d) (hκ0 : h 80 0 = κ) (hκ : κ = 1) (hT : tOK T) (hTT : TT h T) (hn : T 0 2 = ((n : Nat) : Int)) (hL : plT T 0 = ((L : Nat) : Int)) (kE : ∀ h', Fr [80, 81] h h' → (∀ k, k ≠ 3 → h' 80 k = h 80 k) → CHp h' 80 κ T (plT T 0) → Post none (mk h' τ)) :
    ∀ (f i : Nat) (h1 : Nat → Nat → Int), i ≤ (L + 1) → (L + 1) < i + f → Fr [80, 81] h h1 → (CHp h1 80 κ T (((i : Nat) : Int) - 1)) → (∀ k, k ≠ 3 → h1 80 k = h 80 k) → (1 ≤ i) → Aj γ mX0_fillRow d 0 0 Post 30 [(2, vI ((i : Nat) : Int)), (0, vA 80), (1, vA 63)] [] (mk h1 τ) := by
  intro f
  induction f with
  | zero => intro i h1  h1_ h2_; omega
  | succ f ih =>
    intro i h1  h1_ h2_ hF ic iq i1
    have hpr := plT_rng hT 0
    refine a_iload_n (j := 0) dX0_fillRow_30 rfl rfl ?_
    refine a_aload_n (j := 2) dX0_fillRow_31 rfl rfl (Nat.le_of_ble_eq_true rfl) ?_
    refine b_get (a := 63) (z := ((L : Nat) : Int)) (t := 0) dX0_fillRow_32 fwX0_37 (by decide) rfl (by decide) rfl rfl ((Fr_v hF (by decide)).trans (hTT.2.2.2.1.trans hL)) ?_
    refine a_icmp_gt (tgt := 169) dX0_fillRow_35 (by decide) (fun c35_1 => ?_) (fun c35_1 => ?_)
    · exact a_vret dX0_fillRow_169 rfl (kE _ hF iq (by
        have e : i = L + 1 := (by omega)
        rw [hL, show ((L : Nat) : Int) = ((i : Nat) : Int) - 1 by omega]; exact ic))
    · obtain ⟨mm, hmm⟩ : ∃ mm, h 73 i = mm := ⟨_, rfl⟩
      have hm4 := hTT.2.2.2.2.2 i (by omega) (by omega)
      rw [hmm] at hm4
      have hm41 := hm4.1
      have hm42 := hm4.2.1
      have hm44 := hm4.2.2.2
      have hp1 := plT_s (T := T) (m := mm) (by omega)
      rw [if_pos hm4.2.2.1] at hp1
      have hp1 : plT T (mm + 1) = (i : Int) - 1 := (by omega)
      refine a_aload_n (j := 2) dX0_fillRow_38 rfl rfl (Nat.le_of_ble_eq_true rfl) ?_
      refine b_getp (a := 63) (p := 73) dX0_fillRow_39 fwX0_40 (by decide) rfl (by decide) rfl rfl ?_
      refine a_iload_n (j := 0) dX0_fillRow_42 rfl rfl ?_
      refine b_iaload (a := 73) (z := mm) i dX0_fillRow_43 (by decide) rfl rfl (by omega) (sp_nil rfl _) ((Fr_v hF (by decide)).trans hmm) (fun r43_2 => ?_)
      refine a_istore_n (lv' := [(3, vI mm), (2, vI ((i : Nat) : Int)), (0, vA 80), (1, vA 63)]) dX0_fillRow_44 rfl (by decide) rfl ?_
      refine a_iconst dX0_fillRow_45 ⟨by decide, by decide⟩ ?_
      refine a_istore (lv' := [(4, vI 0), (3, vI mm), (2, vI ((i : Nat) : Int)), (0, vA 80), (1, vA 63)]) dX0_fillRow_46 (by decide) rfl ?_
      refine a_lv (lv' := [(4, vI ((0 : Nat) : Int)), (3, vI mm), (2, vI ((i : Nat) : Int)), (0, vA 80), (1, vA 63)]) (by intro q hq; simp only [List.mem_cons, List.not_mem_nil, or_false] at hq ⊢; rcases hq with rfl | rfl | rfl | rfl | rfl <;> simp) (l_frA_80 (h := h1) (p := i) hd (by omega) ?_ 7 0 h1 (by omega) (by omega) Fr_r (fun s hs => by omega) (fun q hq => rfl))
      intro h7 x7 hF7 a7 b7
      refine a_iconst dX0_fillRow_89 ⟨by decide, by decide⟩ ?_
      refine a_istore (lv' := [(4, vI 0), (3, vI mm), (2, vI ((i : Nat) : Int)), (0, vA 80), (1, vA 63)]) dX0_fillRow_90 (by decide) rfl ?_
      have iq7 : ∀ k, h7 80 k = h1 80 k := fun k => Fr_v hF7 (by decide)
      have hC7 : CHp h7 80 κ T ((i : Int) - 1) := CHp_o hT (by omega) ic b7
      refine a_lv (lv' := [(4, vI ((0 : Nat) : Int)), (3, vI mm), (2, vI ((i : Nat) : Int)), (0, vA 80), (1, vA 63)]) (by intro q hq; simp only [List.mem_cons, List.not_mem_nil, or_false] at hq ⊢; rcases hq with rfl | rfl | rfl | rfl | rfl <;> simp) (l_frB_80 (h := h7) (p := i) (n := n) (T := T) (κ := κ) hd ((iq7 0).trans ((iq 0 (by decide)).trans hκ0)) hκ hT (TT_fr (by decide) hF7 (TT_fr (by decide) hF hTT)) hn (by omega) (by omega) (by omega) hC7 ?_ (n + 1) 0 h7 (by omega) (by omega) Fr_r (fun s hs hg => ?_) (fun q hq => rfl) (fun k hk => rfl))
      · intro h8 x8 hF8 a8 b8 e8
        refine a_iinc (j := 2) (z' := ((i + 1 : Nat) : Int)) (lv' := [(2, vI ((i + 1 : Nat) : Int)), (4, vI x8), (3, vI mm), (0, vA 80), (1, vA 63)]) dX0_fillRow_163 rfl (w_okN (by omega) (by omega) (by omega)) (by decide) rfl ?_
        refine a_goto (tgt := 30) dX0_fillRow_166 (by decide) ?_
        refine a_lv (lv' := [(2, vI (((i + 1) : Nat) : Int)), (0, vA 80), (1, vA 63)]) (by intro q hq; simp only [List.mem_cons, List.not_mem_nil, or_false] at hq ⊢; rcases hq with rfl | rfl | rfl <;> simp) (ih (i + 1) h8  (by omega) (by omega) (Fr_t (Fr_t (Fr_m (by decide) hF) (Fr_m (by decide) hF7)) (Fr_m (by decide) hF8)) (by
          have hnew : CHp h8 80 κ T (i : Int) := CHp_s (h := h1) (mm := mm) hT (by omega) (by omega) (by omega) ic (fun q hq => (b8 q hq).trans (b7 q hq)) (fun s hs hg => by
            rcases a8 s hs hg with q | q
            · exact q
            · rw [q.2, WT_next hT hg (by omega) (fun u hu he => q.1 u (by omega) he)])
          rw [show (((i + 1 : Nat) : Int)) - 1 = (i : Int) by omega]
          exact hnew) (fun k hk => (e8 k hk).trans ((iq7 k).trans (iq k hk))) (by omega))
      · refine Or.inr ⟨fun u hu => by omega, ?_⟩
        rw [a7 s hs]
        have hq := ic (s : Int) (mm + 1) (by omega) (by omega) hg (by omega) (by omega) (by omega)
        rw [hp1, show Int.toNat ((s : Int) * 373 + ((i : Int) - 1)) = 373 * s + (i - 1) by omega] at hq
        exact hq
theorem c_X0_fillRow_80 {γ : GT} {d : Nat} {κ : Int} {T : Nat → Nat → Int} {h : Nat → Nat → Int} {τ : List AC} {Post : Option AV → List AC → Prop} (hd : 4 ≤ d) (hκ0 : h 80 0 = κ) (hκ : κ = 1) (hT : tOK T) (hTT : TT h T) (kQ : ∀ h', Fr [80, 81] h h' → (∀ k, k ≠ 3 → h' 80 k = h 80 k) → CHp h' 80 κ T (plT T 0) → Post none (mk h' τ)) : Cj γ mX0_fillRow d 0 0 [vA 80, vA 63] (mk h τ) Post := by
  have h2_ := hT.2.2.1
  have hpr := plT_rng hT 0
  obtain ⟨n, hn⟩ : ∃ n : Nat, T 0 2 = (n : Int) := ⟨Int.toNat (T 0 2), by omega⟩
  obtain ⟨L, hL⟩ : ∃ L : Nat, plT T 0 = (L : Int) := ⟨Int.toNat (plT T 0), by omega⟩
  refine c_of (by decide) (Nat.le_of_ble_eq_true rfl) ?_
  show Aj γ mX0_fillRow d 0 0 Post 0 [(0, vA 80), (1, vA 63)] [] (mk h τ)
  refine a_iconst dX0_fillRow_0 ⟨by decide, by decide⟩ ?_
  refine a_istore_n (lv' := [(2, vI 0), (0, vA 80), (1, vA 63)]) dX0_fillRow_1 rfl (by decide) rfl ?_
  refine a_lv (lv' := [(2, vI ((0 : Nat) : Int)), (0, vA 80), (1, vA 63)]) (by intro q hq; simp only [List.mem_cons, List.not_mem_nil, or_false] at hq ⊢; rcases hq with rfl | rfl | rfl <;> simp) (l_fr1_80 (T := T) (h := h) (κ := κ) hd hκ0 ?_ 7 0 h (by omega) (by omega) Fr_r (fun s hs => by omega))
  intro h7 x7 hF7 a7
  refine a_iconst dX0_fillRow_28 ⟨by decide, by decide⟩ ?_
  refine a_istore_n (lv' := [(2, vI 1), (0, vA 80), (1, vA 63)]) dX0_fillRow_29 rfl (by decide) rfl ?_
  exact a_lv (lv' := [(2, vI ((1 : Nat) : Int)), (0, vA 80), (1, vA 63)]) (by intro q hq; simp only [List.mem_cons, List.not_mem_nil, or_false] at hq ⊢; rcases hq with rfl | rfl | rfl <;> simp) (l_fr2_80 (h := h7) (L := L) (n := n) (κ := κ) (T := T) hd ((Fr_v hF7 (by decide)).trans hκ0) hκ hT (TT_fr (by decide) hF7 hTT) hn hL (fun h' hF hk hc => kQ h' (Fr_t (Fr_m (by decide) hF7) hF) (fun k hk' => (hk k hk').trans (Fr_v hF7 (by decide))) hc) (L + 2) 1 h7 (by omega) (by omega) Fr_r (CHp_0 hT a7) (fun k hk => rfl) (by omega))
theorem c_X0_drawnFor_80 {γ : GT} {d : Nat} {κ : Int} {w : Nat} {N : Nat → Int} {h : Nat → Nat → Int} {τ : List AC} {Post : Option AV → List AC → Prop} (hd : 5 ≤ d) (hw : isWd w) (hR : WR h τ w N) (hv : NV N) (hκ0 : h 80 0 = κ) (hκ : κ = 1) (hTT : h 63 0 = h w 0 → TT h (tt N)) (hCH : h 80 2 = h w 0 → CHp h 80 κ (tt N) (plT (tt N) 0)) (kQ : ∀ h', Fr [63, 64, 65, 66, 67, 68, 69, 70, 71, 72, 73, 74, 75, 80, 81] h h' → h' 63 0 = h w 0 → h' 63 17 = h 63 17 → h' 63 18 = h 63 18 → TT h' (tt N) → h' 80 0 = κ → h' 80 2 = h w 0 → CHp h' 80 κ (tt N) (plT (tt N) 0) → Post (some (vA 80)) (mk h' τ)) : Cj γ mX0_drawnFor d 0 0 [vA 80, vA 63, vA w] (mk h τ) Post := by
  have hw_ : w = 1 ∨ w = 32 := hw
  refine c_of (by decide) (Nat.le_of_ble_eq_true rfl) ?_
  show Aj γ mX0_drawnFor d 0 0 Post 0 [(0, vA 80), (1, vA 63), (2, vA w)] [] (mk h τ)
  refine a_aload_n (j := 1) dX0_drawnFor_0 rfl rfl (Nat.le_of_ble_eq_true rfl) ?_
  refine a_aload_n (j := 2) dX0_drawnFor_1 rfl rfl (Nat.le_of_ble_eq_true rfl) ?_
  refine b_callV (d' := d - 1) (mc' := 0) (ms' := 0) (mc1 := 0) (ms1 := 0) (st := []) (b := 63) [vA w] dX0_drawnFor_2 mwX5_refresh lkX0_22 (by decide) rfl rc_X5 rfl (Nat.le_of_ble_eq_true rfl) (by omega) rfl rfl (c_X5_refresh (N := N) (by omega) hw hR hv hTT (fun h7 hF7 a7 b7 e7 t7 => ?_))
  show Aj γ mX0_drawnFor d 0 0 Post 5 [(0, vA 80), (1, vA 63), (2, vA w)] [] (mk h7 τ)
  refine a_aload_n (j := 0) dX0_drawnFor_5 rfl rfl (Nat.le_of_ble_eq_true rfl) ?_
  refine b_get (a := 80) (z := h 80 2) (t := 0) dX0_drawnFor_6 fwX0_15 (by decide) rfl (by decide) rfl rfl ((Fr_v hF7 (by decide)).trans rfl) ?_
  refine a_aload_n (j := 1) dX0_drawnFor_9 rfl rfl (Nat.le_of_ble_eq_true rfl) ?_
  refine b_get (a := 63) (z := h w 0) (t := 0) dX0_drawnFor_10 fwX0_28 (by decide) rfl (by decide) rfl rfl a7 ?_
  refine a_icmp_eq (tgt := 29) dX0_drawnFor_13 (by decide) (fun c13_1 => ?_) (fun c13_1 => ?_)
  · refine a_aload_n (j := 0) dX0_drawnFor_29 rfl rfl (Nat.le_of_ble_eq_true rfl) ?_
    exact a_aret dX0_drawnFor_30 rfl (Or.inl ⟨_, rfl⟩) (Nat.le_of_ble_eq_true rfl) (kQ h7 (Fr_m (by decide) hF7) a7 b7 e7 t7 ((Fr_v hF7 (by decide)).trans hκ0) ((Fr_v hF7 (by decide)).trans (by omega)) (CHp_fr (hF7 81 (by decide)) (hCH (by omega))))
  · refine a_aload_n (j := 0) dX0_drawnFor_16 rfl rfl (Nat.le_of_ble_eq_true rfl) ?_
    refine a_aload_n (j := 1) dX0_drawnFor_17 rfl rfl (Nat.le_of_ble_eq_true rfl) ?_
    refine b_get (a := 63) (z := h w 0) (t := 0) dX0_drawnFor_18 fwX0_28 (by decide) rfl (by decide) rfl rfl a7 ?_
    refine b_put (a := 80) (v := vI (h w 0)) dX0_drawnFor_21 pwX0_15 (fun h => nomatch h) (by decide) rfl (by decide) rfl rfl (fit_int _) ?_
    show Aj γ mX0_drawnFor d 0 0 Post 24 [(0, vA 80), (1, vA 63), (2, vA w)] [] (mk (up2 h7 80 2 (h w 0)) τ)
    refine a_aload_n (j := 0) dX0_drawnFor_24 rfl rfl (Nat.le_of_ble_eq_true rfl) ?_
    refine a_aload_n (j := 1) dX0_drawnFor_25 rfl rfl (Nat.le_of_ble_eq_true rfl) ?_
    refine b_callV (d' := d - 1) (mc' := 0) (ms' := 0) (mc1 := 0) (ms1 := 0) (st := []) (b := 80) [vA 63] dX0_drawnFor_26 mwX0_fillRow lkX0_29 (by decide) rfl rc_X0 rfl (Nat.le_of_ble_eq_true rfl) (by omega) rfl rfl (c_X0_fillRow_80 (κ := κ) (T := tt N) (by omega) ((up2_ne (by decide)).trans ((Fr_v hF7 (by decide)).trans hκ0)) hκ (tt_OK hv) (TT_fr (L := [80]) (by decide) (Fr_u (by decide) Fr_r) t7) (fun h8 hF8 j8 k8 => ?_))
    show Aj γ mX0_drawnFor d 0 0 Post 29 [(0, vA 80), (1, vA 63), (2, vA w)] [] (mk h8 τ)
    refine a_aload_n (j := 0) dX0_drawnFor_29 rfl rfl (Nat.le_of_ble_eq_true rfl) ?_
    exact a_aret dX0_drawnFor_30 rfl (Or.inl ⟨_, rfl⟩) (Nat.le_of_ble_eq_true rfl) (kQ h8 (Fr_t (Fr_m (by decide) hF7) (Fr_t (Fr_u (by decide) Fr_r) (Fr_m (by decide) hF8))) ((Fr_v hF8 (by decide)).trans ((up2_ne (by decide)).trans a7)) ((Fr_v hF8 (by decide)).trans ((up2_ne (by decide)).trans b7)) ((Fr_v hF8 (by decide)).trans ((up2_ne (by decide)).trans e7)) (TT_fr (by decide) hF8 (TT_fr (L := [80]) (by decide) (Fr_u (by decide) Fr_r) t7)) ((j8 0 (by decide)).trans ((up2_ne (by decide)).trans ((Fr_v hF7 (by decide)).trans hκ0))) ((j8 2 (by decide)).trans up2_at) k8)
set_option maxHeartbeats 8000000 in
theorem l_fr1_82 {γ : GT} {d : Nat} {κ : Int} {T : Nat → Nat → Int} {h : Nat → Nat → Int} {τ : List AC} {Post : Option AV → List AC → Prop} (hd : 4 ≤ d) (hκ0 : h 82 0 = κ) (kE : ∀ h' x, Fr [83] h h' → (∀ s : Nat, s < 6 → h' 83 (373 * s) = wonF κ) → Aj γ mX0_fillRow d 0 0 Post 28 [(2, vI x), (0, vA 82), (1, vA 63)] [] (mk h' τ)) :
    ∀ (f i : Nat) (h1 : Nat → Nat → Int), i ≤ 6 → 6 < i + f → Fr [83] h h1 → (∀ s : Nat, s < i → h1 83 (373 * s) = wonF κ) → Aj γ mX0_fillRow d 0 0 Post 2 [(2, vI ((i : Nat) : Int)), (0, vA 82), (1, vA 63)] [] (mk h1 τ) := by
  intro f
  induction f with
  | zero => intro i h1  h1_ h2_; omega
  | succ f ih =>
    intro i h1  h1_ h2_ hF iv
    refine a_iload_n (j := 0) dX0_fillRow_2 rfl rfl ?_
    refine a_bipush dX0_fillRow_3 ⟨by decide, by decide, by decide⟩ ?_
    refine a_icmp_ge (tgt := 28) dX0_fillRow_5 (by decide) (fun c5_1 => ?_) (fun c5_1 => ?_)
    · exact kE _ _ hF (fun s hs => iv s (by omega))
    · refine a_aload_n (j := 1) dX0_fillRow_8 rfl rfl (Nat.le_of_ble_eq_true rfl) ?_
      refine b_getp (a := 82) (p := 83) dX0_fillRow_9 fwX0_11 (by decide) rfl (by decide) rfl rfl ?_
      refine a_iload_n (j := 0) dX0_fillRow_12 rfl rfl ?_
      refine a_sipush dX0_fillRow_13 ⟨by decide, by decide, by decide⟩ ?_
      refine a_imul (z := (((i : Nat) : Int) * 373)) dX0_fillRow_16 (w_ok (by omega) (by omega)) ?_
      refine a_aload_n (j := 1) dX0_fillRow_17 rfl rfl (Nat.le_of_ble_eq_true rfl) ?_
      refine b_callV (d' := d - 1) (mc' := 0) (ms' := 0) (mc1 := 0) (ms1 := 0) (st := [vI (((i : Nat) : Int) * 373), vA 83]) (b := 82) [] dX0_fillRow_18 mwX0_worthOfNone lkX0_33 (by decide) rfl rc_X0 rfl (Nat.le_of_ble_eq_true rfl) (by omega) rfl rfl (c_X0_worthOfNone (v1 := κ) (by omega) (Or.inr (Or.inr rfl)) ((Fr_v hF (by decide)).trans hκ0)  ?_)
      show Aj γ mX0_fillRow d 0 0 Post 21 [(2, vI ((i : Nat) : Int)), (0, vA 82), (1, vA 63)] [vI (wonF κ), vI (((i : Nat) : Int) * 373), vA 83] (mk h1 τ)
      refine b_iastore (a := 83) (373 * i) dX0_fillRow_21 (by decide) rfl (by omega) (by omega) (sp_nil rfl _) ?_
      refine a_iinc (j := 0) (z' := ((i + 1 : Nat) : Int)) (lv' := [(2, vI ((i + 1 : Nat) : Int)), (0, vA 82), (1, vA 63)]) dX0_fillRow_22 rfl (w_okN (by omega) (by omega) (by omega)) (by decide) rfl ?_
      refine a_goto (tgt := 2) dX0_fillRow_25 (by decide) ?_
      refine a_lv (lv' := [(2, vI (((i + 1) : Nat) : Int)), (0, vA 82), (1, vA 63)]) (by intro q hq; simp only [List.mem_cons, List.not_mem_nil, or_false] at hq ⊢; rcases hq with rfl | rfl | rfl <;> simp) (ih (i + 1) (up2 h1 83 (373 * i) (wonF κ))  (by omega) (by omega) (Fr_u (by decide) (Fr_m (by decide) hF)) (fun s hs => by
          by_cases c : s = i
          · subst c; exact up2_at
          · exact (up2_ne (by omega)).trans (iv s (by omega))))
set_option maxHeartbeats 8000000 in
theorem l_frA_82 {γ : GT} {d : Nat} {p : Nat} {mm : Int} {h : Nat → Nat → Int} {τ : List AC} {Post : Option AV → List AC → Prop} (hd : 4 ≤ d) (hp : 1 ≤ p ∧ p ≤ 372) (kE : ∀ h' x, Fr [83] h h' → (∀ s : Nat, s < 6 → h' 83 (373 * s + p) = h 83 (373 * s + (p - 1))) → (∀ q : Nat, (∀ s : Nat, s < 6 → q ≠ 373 * s + p) → h' 83 q = h 83 q) → Aj γ mX0_fillRow d 0 0 Post 89 [(4, vI x), (3, vI mm), (2, vI ((p : Nat) : Int)), (0, vA 82), (1, vA 63)] [] (mk h' τ)) :
    ∀ (f i : Nat) (h1 : Nat → Nat → Int), i ≤ 6 → 6 < i + f → Fr [83] h h1 → (∀ s : Nat, s < i → h1 83 (373 * s + p) = h 83 (373 * s + (p - 1))) → (∀ q : Nat, (∀ s : Nat, s < 6 → q ≠ 373 * s + p) → h1 83 q = h 83 q) → Aj γ mX0_fillRow d 0 0 Post 48 [(4, vI ((i : Nat) : Int)), (3, vI mm), (2, vI ((p : Nat) : Int)), (0, vA 82), (1, vA 63)] [] (mk h1 τ) := by
  intro f
  induction f with
  | zero => intro i h1  h1_ h2_; omega
  | succ f ih =>
    intro i h1  h1_ h2_ hF iv io
    refine a_iload (j := 0) dX0_fillRow_48 rfl ?_
    refine a_bipush dX0_fillRow_50 ⟨by decide, by decide, by decide⟩ ?_
    refine a_icmp_ge (tgt := 89) dX0_fillRow_52 (by decide) (fun c52_1 => ?_) (fun c52_1 => ?_)
    · exact kE _ _ hF (fun s hs => iv s (by omega)) io
    · refine a_aload_n (j := 3) dX0_fillRow_55 rfl rfl (Nat.le_of_ble_eq_true rfl) ?_
      refine b_getp (a := 82) (p := 83) dX0_fillRow_56 fwX0_11 (by decide) rfl (by decide) rfl rfl ?_
      refine a_iload (j := 0) dX0_fillRow_59 rfl ?_
      refine a_sipush dX0_fillRow_61 ⟨by decide, by decide, by decide⟩ ?_
      refine a_imul (z := (((i : Nat) : Int) * 373)) dX0_fillRow_64 (w_ok (by omega) (by omega)) ?_
      refine a_iload_n (j := 2) dX0_fillRow_65 rfl rfl ?_
      refine a_iadd (z := ((((i : Nat) : Int) * 373) + ((p : Nat) : Int))) dX0_fillRow_66 (w_ok (by omega) (by omega)) ?_
      refine a_aload_n (j := 3) dX0_fillRow_67 rfl rfl (Nat.le_of_ble_eq_true rfl) ?_
      refine b_getp (a := 82) (p := 83) dX0_fillRow_68 fwX0_11 (by decide) rfl (by decide) rfl rfl ?_
      refine a_iload (j := 0) dX0_fillRow_71 rfl ?_
      refine a_sipush dX0_fillRow_73 ⟨by decide, by decide, by decide⟩ ?_
      refine a_imul (z := (((i : Nat) : Int) * 373)) dX0_fillRow_76 (w_ok (by omega) (by omega)) ?_
      refine a_iload_n (j := 2) dX0_fillRow_77 rfl rfl ?_
      refine a_iadd (z := ((((i : Nat) : Int) * 373) + ((p : Nat) : Int))) dX0_fillRow_78 (w_ok (by omega) (by omega)) ?_
      refine a_iconst dX0_fillRow_79 ⟨by decide, by decide⟩ ?_
      refine a_isub (z := (((((i : Nat) : Int) * 373) + ((p : Nat) : Int)) - 1)) dX0_fillRow_80 (w_ok (by omega) (by omega)) ?_
      refine b_iaload (a := 83) (z := h 83 (373 * i + (p - 1))) (373 * i + (p - 1)) dX0_fillRow_81 (by decide) rfl (by omega) (by omega) (sp_nil rfl _) (io _ (fun s hs => by omega)) (fun r81_2 => ?_)
      refine b_iastore (a := 83) (373 * i + p) dX0_fillRow_82 (by decide) rfl (by omega) (by omega) (sp_nil rfl _) ?_
      refine a_iinc (j := 0) (z' := ((i + 1 : Nat) : Int)) (lv' := [(4, vI ((i + 1 : Nat) : Int)), (3, vI mm), (2, vI ((p : Nat) : Int)), (0, vA 82), (1, vA 63)]) dX0_fillRow_83 rfl (w_okN (by omega) (by omega) (by omega)) (by decide) rfl ?_
      refine a_goto (tgt := 48) dX0_fillRow_86 (by decide) ?_
      refine a_lv (lv' := [(4, vI (((i + 1) : Nat) : Int)), (3, vI mm), (2, vI ((p : Nat) : Int)), (0, vA 82), (1, vA 63)]) (by intro q hq; simp only [List.mem_cons, List.not_mem_nil, or_false] at hq ⊢; rcases hq with rfl | rfl | rfl | rfl | rfl <;> simp) (ih (i + 1) (up2 h1 83 (373 * i + p) (h 83 (373 * i + (p - 1))))  (by omega) (by omega) (Fr_u (by decide) (Fr_m (by decide) hF)) (fun s hs => by
          by_cases c : s = i
          · subst c; exact up2_at
          · exact (up2_ne (by omega)).trans (iv s (by omega))) (fun q hq => (up2_ne (fun e => hq i (by omega) e.2)).trans (io q hq)))
set_option maxHeartbeats 8000000 in
theorem l_frB_82 {γ : GT} {d : Nat} {κ : Int} {T : Nat → Nat → Int} {p n : Nat} {mm : Int} {h : Nat → Nat → Int} {τ : List AC} {Post : Option AV → List AC → Prop} (hd : 4 ≤ d) (hκ0 : h 82 0 = κ) (hκ : κ = 2) (hT : tOK T) (hTT : TT h T) (hn : T 0 2 = ((n : Nat) : Int)) (hp : 1 ≤ p ∧ p ≤ 372) (hm : 0 ≤ mm ∧ mm ≤ 1589) (hpl : plT T (mm + 1) ≤ (p : Int) - 1) (hC : CHp h 82 κ T ((p : Int) - 1)) (kE : ∀ h' x, Fr [82, 83] h h' → (∀ s : Nat, s < 6 → ¬ (s : Int) = T 0 0 → h' 83 (373 * s + p) = WT κ T s mm ∨ ((∀ u : Nat, u < n → T 2 u = (s : Int) → ¬ (T 6 u ≤ mm ∧ mm ≤ lsT T u)) ∧ h' 83 (373 * s + p) = WT κ T s (mm + 1))) → (∀ q : Nat, (∀ s : Nat, s < 6 → q ≠ 373 * s + p) → h' 83 q = h 83 q) → (∀ k, k ≠ 3 → h' 82 k = h 82 k) → Aj γ mX0_fillRow d 0 0 Post 163 [(4, vI x), (3, vI mm), (2, vI ((p : Nat) : Int)), (0, vA 82), (1, vA 63)] [] (mk h' τ)) :
    ∀ (f i : Nat) (h1 : Nat → Nat → Int), i ≤ n → n < i + f → Fr [82, 83] h h1 → (∀ s : Nat, s < 6 → ¬ (s : Int) = T 0 0 → h1 83 (373 * s + p) = WT κ T s mm ∨ ((∀ u : Nat, u < i → T 2 u = (s : Int) → ¬ (T 6 u ≤ mm ∧ mm ≤ lsT T u)) ∧ h1 83 (373 * s + p) = WT κ T s (mm + 1))) → (∀ q : Nat, (∀ s : Nat, s < 6 → q ≠ 373 * s + p) → h1 83 q = h 83 q) → (∀ k, k ≠ 3 → h1 82 k = h 82 k) → Aj γ mX0_fillRow d 0 0 Post 92 [(4, vI ((i : Nat) : Int)), (3, vI mm), (2, vI ((p : Nat) : Int)), (0, vA 82), (1, vA 63)] [] (mk h1 τ) := by
  intro f
  induction f with
  | zero => intro i h1  h1_ h2_; omega
  | succ f ih =>
    intro i h1  h1_ h2_ hF iv io iq
    have h2_ := hT.2.2.1
    have hb := hT.2.2.2.2.2 i
    have hb1 := hb.1
    have hb6 := hb.2.2.2.2.1
    have hb7 := hb.2.2.2.2.2.1
    refine a_iload (j := 0) dX0_fillRow_92 rfl ?_
    refine a_aload_n (j := 4) dX0_fillRow_94 rfl rfl (Nat.le_of_ble_eq_true rfl) ?_
    refine b_get (a := 63) (z := ((n : Nat) : Int)) (t := 0) dX0_fillRow_95 fwX0_43 (by decide) rfl (by decide) rfl rfl ((Fr_v hF (by decide)).trans (hTT.1.2.2.trans hn)) ?_
    refine a_icmp_ge (tgt := 163) dX0_fillRow_98 (by decide) (fun c98_1 => ?_) (fun c98_1 => ?_)
    · obtain rfl : i = n := (by omega)
      exact kE _ _ hF iv io iq
    · refine a_iload_n (j := 1) dX0_fillRow_101 rfl rfl ?_
      refine a_aload_n (j := 4) dX0_fillRow_102 rfl rfl (Nat.le_of_ble_eq_true rfl) ?_
      refine b_getp (a := 63) (p := 69) dX0_fillRow_103 fwX0_46 (by decide) rfl (by decide) rfl rfl ?_
      refine a_iload (j := 0) dX0_fillRow_106 rfl ?_
      refine b_iaload (a := 69) (z := T 6 i) i dX0_fillRow_108 (by decide) rfl rfl (by omega) (sp_nil rfl _) ((Fr_v hF (by decide)).trans (hTT.2.2.1 i (by omega)).2.2.2.2.1) (fun r108_2 => ?_)
      refine a_aload_n (j := 4) dX0_fillRow_109 rfl rfl (Nat.le_of_ble_eq_true rfl) ?_
      refine a_iload (j := 0) dX0_fillRow_110 rfl ?_
      refine b_callV (d' := d - 1) (mc' := 0) (ms' := 0) (mc1 := 0) (ms1 := 0) (st := [vI (T 6 i), vI mm]) (b := 63) [vI ((i : Nat) : Int)] dX0_fillRow_112 mwX5_lastMinute lkX0_49 (by decide) rfl rc_X5 rfl (Nat.le_of_ble_eq_true rfl) (by omega) rfl rfl (c_X5_lastMinute (v1 := (T 6 i)) (v2 := (T 7 i)) (by omega)  ((Fr_v hF (by decide)).trans ((congrArg (h 69) (show (Int.toNat ((i : Nat) : Int)) = i by omega)).trans (hTT.2.2.1 i (by omega)).2.2.2.2.1)) ((Fr_v hF (by decide)).trans ((congrArg (h 70) (show (Int.toNat ((i : Nat) : Int)) = i by omega)).trans (hTT.2.2.1 i (by omega)).2.2.2.2.2.1)) (show 0 ≤ ((i : Nat) : Int) ∧ ((i : Nat) : Int) ≤ 11 by omega) (show 0 ≤ (T 6 i) ∧ (T 6 i) ≤ 1559 by omega) (show 0 ≤ (T 7 i) ∧ (T 7 i) ≤ 30 by omega) ?_)
      show Aj γ mX0_fillRow d 0 0 Post 115 [(4, vI ((i : Nat) : Int)), (3, vI mm), (2, vI ((p : Nat) : Int)), (0, vA 82), (1, vA 63)] [vI ((T 6 i) + (T 7 i)), vI (T 6 i), vI mm] (mk h1 τ)
      refine a_callS (d' := d - 1) (mc' := 0) (ms' := 0) (mc1 := 0) (ms1 := 0) (st := []) [vI mm, vI (T 6 i), vI ((T 6 i) + (T 7 i))] dX0_fillRow_115 mwX8_within lkX0_53 rfl (Nat.le_of_ble_eq_true rfl) (by omega) rfl rfl (c_X8_within  (by omega)    (fun t115_3 => ?_) (fun t115_3 => ?_))
      · have t115_3 : (T 6 i) ≤ mm ∧ mm ≤ ((T 6 i) + (T 7 i)) := t115_3
        show Aj γ mX0_fillRow d 0 0 Post 118 [(4, vI ((i : Nat) : Int)), (3, vI mm), (2, vI ((p : Nat) : Int)), (0, vA 82), (1, vA 63)] [vI 1] (mk h1 τ)
        refine a_if_eq (tgt := 157) dX0_fillRow_118 (by decide) (fun c => absurd c (by decide)) (fun _ => ?_)
        refine a_aload_n (j := 3) dX0_fillRow_121 rfl rfl (Nat.le_of_ble_eq_true rfl) ?_
        refine a_aload_n (j := 4) dX0_fillRow_122 rfl rfl (Nat.le_of_ble_eq_true rfl) ?_
        refine a_aload_n (j := 4) dX0_fillRow_123 rfl rfl (Nat.le_of_ble_eq_true rfl) ?_
        refine b_getp (a := 63) (p := 65) dX0_fillRow_124 fwX0_57 (by decide) rfl (by decide) rfl rfl ?_
        refine a_iload (j := 0) dX0_fillRow_127 rfl ?_
        refine b_iaload (a := 65) (z := T 2 i) i dX0_fillRow_129 (by decide) rfl rfl (by omega) (sp_nil rfl _) ((Fr_v hF (by decide)).trans (hTT.2.2.1 i (by omega)).1) (fun r129_4 => ?_)
        refine a_iload_n (j := 1) dX0_fillRow_130 rfl rfl ?_
        refine b_callV (d' := d - 1) (mc' := 0) (ms' := 0) (mc1 := 0) (ms1 := 0) (st := []) (b := 82) [vA 63, vI (T 2 i), vI mm] dX0_fillRow_131 mwX0_bestTrain lkX0_60 (by decide) rfl rc_X0 rfl (Nat.le_of_ble_eq_true rfl) (by omega) rfl rfl (c_X0_bestTrain_82 (κ := κ) (T := T) (s := T 2 i) (m := mm) (P := (p : Int) - 1) (by omega) ((iq 0 (by decide)).trans hκ0) hκ hT (TT_fr (by decide) hF hTT) (by omega) (by omega) (CHp_o hT hp hC io) (by omega) (fun h9 hG9 j1 j2 => ?_))
        show Aj γ mX0_fillRow d 0 0 Post 134 [(4, vI ((i : Nat) : Int)), (3, vI mm), (2, vI ((p : Nat) : Int)), (0, vA 82), (1, vA 63)] [vI (hsF (TKk κ T (T 2 i) mm))] (mk h9 τ)
        refine a_pop dX0_fillRow_134 (fun h => nomatch h) ?_
        refine a_aload_n (j := 3) dX0_fillRow_135 rfl rfl (Nat.le_of_ble_eq_true rfl) ?_
        refine b_getp (a := 82) (p := 83) dX0_fillRow_136 fwX0_11 (by decide) rfl (by decide) rfl rfl ?_
        refine a_aload_n (j := 4) dX0_fillRow_139 rfl rfl (Nat.le_of_ble_eq_true rfl) ?_
        refine b_getp (a := 63) (p := 65) dX0_fillRow_140 fwX0_57 (by decide) rfl (by decide) rfl rfl ?_
        refine a_iload (j := 0) dX0_fillRow_143 rfl ?_
        refine b_iaload (a := 65) (z := T 2 i) i dX0_fillRow_145 (by decide) rfl rfl (by omega) (sp_nil rfl _) ((Fr_v hG9 (by decide)).trans ((Fr_v hF (by decide)).trans (hTT.2.2.1 i (by omega)).1)) (fun r145_5 => ?_)
        refine a_sipush dX0_fillRow_146 ⟨by decide, by decide, by decide⟩ ?_
        refine a_imul (z := ((T 2 i) * 373)) dX0_fillRow_149 (w_ok (by omega) (by omega)) ?_
        refine a_iload_n (j := 2) dX0_fillRow_150 rfl rfl ?_
        refine a_iadd (z := (((T 2 i) * 373) + ((p : Nat) : Int))) dX0_fillRow_151 (w_ok (by omega) (by omega)) ?_
        refine a_aload_n (j := 3) dX0_fillRow_152 rfl rfl (Nat.le_of_ble_eq_true rfl) ?_
        refine b_get (a := 82) (z := h9 82 3) (t := 0) dX0_fillRow_153 fwX0_64 (by decide) rfl (by decide) rfl rfl rfl ?_
        refine b_iastore (a := 83) (Int.toNat ((T 2 i * 373) + ((p : Nat) : Int))) dX0_fillRow_156 (by decide) rfl (by omega) (by omega) (sp_nil rfl _) ?_
        refine a_iinc (j := 0) (z' := ((i + 1 : Nat) : Int)) (lv' := [(4, vI ((i + 1 : Nat) : Int)), (3, vI mm), (2, vI ((p : Nat) : Int)), (0, vA 82), (1, vA 63)]) dX0_fillRow_157 rfl (w_okN (by omega) (by omega) (by omega)) (by decide) rfl ?_
        refine a_goto (tgt := 92) dX0_fillRow_160 (by decide) ?_
        have hx : ∀ s : Nat, 373 * s + p = Int.toNat ((T 2 i * 373) + ((p : Nat) : Int)) ↔ (s : Int) = T 2 i := fun s => by omega
        refine a_lv (lv' := [(4, vI (((i + 1) : Nat) : Int)), (3, vI mm), (2, vI ((p : Nat) : Int)), (0, vA 82), (1, vA 63)]) (by intro q hq; simp only [List.mem_cons, List.not_mem_nil, or_false] at hq ⊢; rcases hq with rfl | rfl | rfl | rfl | rfl <;> simp) (ih (i + 1) (up2 h9 83 (Int.toNat ((T 2 i * 373) + ((p : Nat) : Int))) (h9 82 3))  (by omega) (by omega) (Fr_u (by decide) (Fr_t (Fr_m (by decide) hF) (Fr_m (by decide) hG9))) (fun s hs hg => by
          by_cases c : (s : Int) = T 2 i
          · left
            rw [(hx s).mpr c, up2_at, j2 (by omega), c, WT_eq hT (by omega), if_neg (by omega)]
          · rw [up2_ne (fun e => c ((hx s).mp e.2)), Fr_v hG9 (by decide)]
            rcases iv s hs hg with q | q
            · exact Or.inl q
            · exact Or.inr ⟨fun u hu he => by
                by_cases cu : u = i
                · subst cu; omega
                · exact q.1 u (by omega) he, q.2⟩) (fun q hq => (up2_ne (fun e => hq (Int.toNat (T 2 i)) (by omega) (by omega))).trans ((Fr_v hG9 (by decide)).trans (io q hq))) (fun k hk => (up2_ne (by omega)).trans ((j1 k hk).trans (iq k hk))))
      · have t115_3 : ¬ ((T 6 i) ≤ mm ∧ mm ≤ ((T 6 i) + (T 7 i))) := t115_3
        show Aj γ mX0_fillRow d 0 0 Post 118 [(4, vI ((i : Nat) : Int)), (3, vI mm), (2, vI ((p : Nat) : Int)), (0, vA 82), (1, vA 63)] [vI 0] (mk h1 τ)
        refine a_if_eq (tgt := 157) dX0_fillRow_118 (by decide) (fun _ => ?_) (fun c => absurd c (by decide))
        refine a_iinc (j := 0) (z' := ((i + 1 : Nat) : Int)) (lv' := [(4, vI ((i + 1 : Nat) : Int)), (3, vI mm), (2, vI ((p : Nat) : Int)), (0, vA 82), (1, vA 63)]) dX0_fillRow_157 rfl (w_okN (by omega) (by omega) (by omega)) (by decide) rfl ?_
        refine a_goto (tgt := 92) dX0_fillRow_160 (by decide) ?_
        refine a_lv (lv' := [(4, vI (((i + 1) : Nat) : Int)), (3, vI mm), (2, vI ((p : Nat) : Int)), (0, vA 82), (1, vA 63)]) (by intro q hq; simp only [List.mem_cons, List.not_mem_nil, or_false] at hq ⊢; rcases hq with rfl | rfl | rfl | rfl | rfl <;> simp) (ih (i + 1) h1  (by omega) (by omega) (Fr_m (by decide) hF) (fun s hs hg => by
          rcases iv s hs hg with q | q
          · exact Or.inl q
          · exact Or.inr ⟨fun u hu he => by
              by_cases cu : u = i
              · subst cu; have hlq : lsT T u = T 6 u + T 7 u := rfl; omega
              · exact q.1 u (by omega) he, q.2⟩) io iq)
set_option maxHeartbeats 8000000 in
theorem l_fr2_82 {γ : GT} {d : Nat} {κ : Int} {T : Nat → Nat → Int} {L n : Nat} {h : Nat → Nat → Int} {τ : List AC} {Post : Option AV → List AC → Prop} (hd : 4 ≤ d) (hκ0 : h 82 0 = κ) (hκ : κ = 2) (hT : tOK T) (hTT : TT h T) (hn : T 0 2 = ((n : Nat) : Int)) (hL : plT T 0 = ((L : Nat) : Int)) (kE : ∀ h', Fr [82, 83] h h' → (∀ k, k ≠ 3 → h' 82 k = h 82 k) → CHp h' 82 κ T (plT T 0) → Post none (mk h' τ)) :
    ∀ (f i : Nat) (h1 : Nat → Nat → Int), i ≤ (L + 1) → (L + 1) < i + f → Fr [82, 83] h h1 → (CHp h1 82 κ T (((i : Nat) : Int) - 1)) → (∀ k, k ≠ 3 → h1 82 k = h 82 k) → (1 ≤ i) → Aj γ mX0_fillRow d 0 0 Post 30 [(2, vI ((i : Nat) : Int)), (0, vA 82), (1, vA 63)] [] (mk h1 τ) := by
  intro f
  induction f with
  | zero => intro i h1  h1_ h2_; omega
  | succ f ih =>
    intro i h1  h1_ h2_ hF ic iq i1
    have hpr := plT_rng hT 0
    refine a_iload_n (j := 0) dX0_fillRow_30 rfl rfl ?_
    refine a_aload_n (j := 2) dX0_fillRow_31 rfl rfl (Nat.le_of_ble_eq_true rfl) ?_
    refine b_get (a := 63) (z := ((L : Nat) : Int)) (t := 0) dX0_fillRow_32 fwX0_37 (by decide) rfl (by decide) rfl rfl ((Fr_v hF (by decide)).trans (hTT.2.2.2.1.trans hL)) ?_
    refine a_icmp_gt (tgt := 169) dX0_fillRow_35 (by decide) (fun c35_1 => ?_) (fun c35_1 => ?_)
    · exact a_vret dX0_fillRow_169 rfl (kE _ hF iq (by
        have e : i = L + 1 := (by omega)
        rw [hL, show ((L : Nat) : Int) = ((i : Nat) : Int) - 1 by omega]; exact ic))
    · obtain ⟨mm, hmm⟩ : ∃ mm, h 73 i = mm := ⟨_, rfl⟩
      have hm4 := hTT.2.2.2.2.2 i (by omega) (by omega)
      rw [hmm] at hm4
      have hm41 := hm4.1
      have hm42 := hm4.2.1
      have hm44 := hm4.2.2.2
      have hp1 := plT_s (T := T) (m := mm) (by omega)
      rw [if_pos hm4.2.2.1] at hp1
      have hp1 : plT T (mm + 1) = (i : Int) - 1 := (by omega)
      refine a_aload_n (j := 2) dX0_fillRow_38 rfl rfl (Nat.le_of_ble_eq_true rfl) ?_
      refine b_getp (a := 63) (p := 73) dX0_fillRow_39 fwX0_40 (by decide) rfl (by decide) rfl rfl ?_
      refine a_iload_n (j := 0) dX0_fillRow_42 rfl rfl ?_
      refine b_iaload (a := 73) (z := mm) i dX0_fillRow_43 (by decide) rfl rfl (by omega) (sp_nil rfl _) ((Fr_v hF (by decide)).trans hmm) (fun r43_2 => ?_)
      refine a_istore_n (lv' := [(3, vI mm), (2, vI ((i : Nat) : Int)), (0, vA 82), (1, vA 63)]) dX0_fillRow_44 rfl (by decide) rfl ?_
      refine a_iconst dX0_fillRow_45 ⟨by decide, by decide⟩ ?_
      refine a_istore (lv' := [(4, vI 0), (3, vI mm), (2, vI ((i : Nat) : Int)), (0, vA 82), (1, vA 63)]) dX0_fillRow_46 (by decide) rfl ?_
      refine a_lv (lv' := [(4, vI ((0 : Nat) : Int)), (3, vI mm), (2, vI ((i : Nat) : Int)), (0, vA 82), (1, vA 63)]) (by intro q hq; simp only [List.mem_cons, List.not_mem_nil, or_false] at hq ⊢; rcases hq with rfl | rfl | rfl | rfl | rfl <;> simp) (l_frA_82 (h := h1) (p := i) hd (by omega) ?_ 7 0 h1 (by omega) (by omega) Fr_r (fun s hs => by omega) (fun q hq => rfl))
      intro h7 x7 hF7 a7 b7
      refine a_iconst dX0_fillRow_89 ⟨by decide, by decide⟩ ?_
      refine a_istore (lv' := [(4, vI 0), (3, vI mm), (2, vI ((i : Nat) : Int)), (0, vA 82), (1, vA 63)]) dX0_fillRow_90 (by decide) rfl ?_
      have iq7 : ∀ k, h7 82 k = h1 82 k := fun k => Fr_v hF7 (by decide)
      have hC7 : CHp h7 82 κ T ((i : Int) - 1) := CHp_o hT (by omega) ic b7
      refine a_lv (lv' := [(4, vI ((0 : Nat) : Int)), (3, vI mm), (2, vI ((i : Nat) : Int)), (0, vA 82), (1, vA 63)]) (by intro q hq; simp only [List.mem_cons, List.not_mem_nil, or_false] at hq ⊢; rcases hq with rfl | rfl | rfl | rfl | rfl <;> simp) (l_frB_82 (h := h7) (p := i) (n := n) (T := T) (κ := κ) hd ((iq7 0).trans ((iq 0 (by decide)).trans hκ0)) hκ hT (TT_fr (by decide) hF7 (TT_fr (by decide) hF hTT)) hn (by omega) (by omega) (by omega) hC7 ?_ (n + 1) 0 h7 (by omega) (by omega) Fr_r (fun s hs hg => ?_) (fun q hq => rfl) (fun k hk => rfl))
      · intro h8 x8 hF8 a8 b8 e8
        refine a_iinc (j := 2) (z' := ((i + 1 : Nat) : Int)) (lv' := [(2, vI ((i + 1 : Nat) : Int)), (4, vI x8), (3, vI mm), (0, vA 82), (1, vA 63)]) dX0_fillRow_163 rfl (w_okN (by omega) (by omega) (by omega)) (by decide) rfl ?_
        refine a_goto (tgt := 30) dX0_fillRow_166 (by decide) ?_
        refine a_lv (lv' := [(2, vI (((i + 1) : Nat) : Int)), (0, vA 82), (1, vA 63)]) (by intro q hq; simp only [List.mem_cons, List.not_mem_nil, or_false] at hq ⊢; rcases hq with rfl | rfl | rfl <;> simp) (ih (i + 1) h8  (by omega) (by omega) (Fr_t (Fr_t (Fr_m (by decide) hF) (Fr_m (by decide) hF7)) (Fr_m (by decide) hF8)) (by
          have hnew : CHp h8 82 κ T (i : Int) := CHp_s (h := h1) (mm := mm) hT (by omega) (by omega) (by omega) ic (fun q hq => (b8 q hq).trans (b7 q hq)) (fun s hs hg => by
            rcases a8 s hs hg with q | q
            · exact q
            · rw [q.2, WT_next hT hg (by omega) (fun u hu he => q.1 u (by omega) he)])
          rw [show (((i + 1 : Nat) : Int)) - 1 = (i : Int) by omega]
          exact hnew) (fun k hk => (e8 k hk).trans ((iq7 k).trans (iq k hk))) (by omega))
      · refine Or.inr ⟨fun u hu => by omega, ?_⟩
        rw [a7 s hs]
        have hq := ic (s : Int) (mm + 1) (by omega) (by omega) hg (by omega) (by omega) (by omega)
        rw [hp1, show Int.toNat ((s : Int) * 373 + ((i : Int) - 1)) = 373 * s + (i - 1) by omega] at hq
        exact hq
theorem c_X0_fillRow_82 {γ : GT} {d : Nat} {κ : Int} {T : Nat → Nat → Int} {h : Nat → Nat → Int} {τ : List AC} {Post : Option AV → List AC → Prop} (hd : 4 ≤ d) (hκ0 : h 82 0 = κ) (hκ : κ = 2) (hT : tOK T) (hTT : TT h T) (kQ : ∀ h', Fr [82, 83] h h' → (∀ k, k ≠ 3 → h' 82 k = h 82 k) → CHp h' 82 κ T (plT T 0) → Post none (mk h' τ)) : Cj γ mX0_fillRow d 0 0 [vA 82, vA 63] (mk h τ) Post := by
  have h2_ := hT.2.2.1
  have hpr := plT_rng hT 0
  obtain ⟨n, hn⟩ : ∃ n : Nat, T 0 2 = (n : Int) := ⟨Int.toNat (T 0 2), by omega⟩
  obtain ⟨L, hL⟩ : ∃ L : Nat, plT T 0 = (L : Int) := ⟨Int.toNat (plT T 0), by omega⟩
  refine c_of (by decide) (Nat.le_of_ble_eq_true rfl) ?_
  show Aj γ mX0_fillRow d 0 0 Post 0 [(0, vA 82), (1, vA 63)] [] (mk h τ)
  refine a_iconst dX0_fillRow_0 ⟨by decide, by decide⟩ ?_
  refine a_istore_n (lv' := [(2, vI 0), (0, vA 82), (1, vA 63)]) dX0_fillRow_1 rfl (by decide) rfl ?_
  refine a_lv (lv' := [(2, vI ((0 : Nat) : Int)), (0, vA 82), (1, vA 63)]) (by intro q hq; simp only [List.mem_cons, List.not_mem_nil, or_false] at hq ⊢; rcases hq with rfl | rfl | rfl <;> simp) (l_fr1_82 (T := T) (h := h) (κ := κ) hd hκ0 ?_ 7 0 h (by omega) (by omega) Fr_r (fun s hs => by omega))
  intro h7 x7 hF7 a7
  refine a_iconst dX0_fillRow_28 ⟨by decide, by decide⟩ ?_
  refine a_istore_n (lv' := [(2, vI 1), (0, vA 82), (1, vA 63)]) dX0_fillRow_29 rfl (by decide) rfl ?_
  exact a_lv (lv' := [(2, vI ((1 : Nat) : Int)), (0, vA 82), (1, vA 63)]) (by intro q hq; simp only [List.mem_cons, List.not_mem_nil, or_false] at hq ⊢; rcases hq with rfl | rfl | rfl <;> simp) (l_fr2_82 (h := h7) (L := L) (n := n) (κ := κ) (T := T) hd ((Fr_v hF7 (by decide)).trans hκ0) hκ hT (TT_fr (by decide) hF7 hTT) hn hL (fun h' hF hk hc => kQ h' (Fr_t (Fr_m (by decide) hF7) hF) (fun k hk' => (hk k hk').trans (Fr_v hF7 (by decide))) hc) (L + 2) 1 h7 (by omega) (by omega) Fr_r (CHp_0 hT a7) (fun k hk => rfl) (by omega))
theorem c_X0_drawnFor_82 {γ : GT} {d : Nat} {κ : Int} {w : Nat} {N : Nat → Int} {h : Nat → Nat → Int} {τ : List AC} {Post : Option AV → List AC → Prop} (hd : 5 ≤ d) (hw : isWd w) (hR : WR h τ w N) (hv : NV N) (hκ0 : h 82 0 = κ) (hκ : κ = 2) (hTT : h 63 0 = h w 0 → TT h (tt N)) (hCH : h 82 2 = h w 0 → CHp h 82 κ (tt N) (plT (tt N) 0)) (kQ : ∀ h', Fr [63, 64, 65, 66, 67, 68, 69, 70, 71, 72, 73, 74, 75, 82, 83] h h' → h' 63 0 = h w 0 → h' 63 17 = h 63 17 → h' 63 18 = h 63 18 → TT h' (tt N) → h' 82 0 = κ → h' 82 2 = h w 0 → CHp h' 82 κ (tt N) (plT (tt N) 0) → Post (some (vA 82)) (mk h' τ)) : Cj γ mX0_drawnFor d 0 0 [vA 82, vA 63, vA w] (mk h τ) Post := by
  have hw_ : w = 1 ∨ w = 32 := hw
  refine c_of (by decide) (Nat.le_of_ble_eq_true rfl) ?_
  show Aj γ mX0_drawnFor d 0 0 Post 0 [(0, vA 82), (1, vA 63), (2, vA w)] [] (mk h τ)
  refine a_aload_n (j := 1) dX0_drawnFor_0 rfl rfl (Nat.le_of_ble_eq_true rfl) ?_
  refine a_aload_n (j := 2) dX0_drawnFor_1 rfl rfl (Nat.le_of_ble_eq_true rfl) ?_
  refine b_callV (d' := d - 1) (mc' := 0) (ms' := 0) (mc1 := 0) (ms1 := 0) (st := []) (b := 63) [vA w] dX0_drawnFor_2 mwX5_refresh lkX0_22 (by decide) rfl rc_X5 rfl (Nat.le_of_ble_eq_true rfl) (by omega) rfl rfl (c_X5_refresh (N := N) (by omega) hw hR hv hTT (fun h7 hF7 a7 b7 e7 t7 => ?_))
  show Aj γ mX0_drawnFor d 0 0 Post 5 [(0, vA 82), (1, vA 63), (2, vA w)] [] (mk h7 τ)
  refine a_aload_n (j := 0) dX0_drawnFor_5 rfl rfl (Nat.le_of_ble_eq_true rfl) ?_
  refine b_get (a := 82) (z := h 82 2) (t := 0) dX0_drawnFor_6 fwX0_15 (by decide) rfl (by decide) rfl rfl ((Fr_v hF7 (by decide)).trans rfl) ?_
  refine a_aload_n (j := 1) dX0_drawnFor_9 rfl rfl (Nat.le_of_ble_eq_true rfl) ?_
  refine b_get (a := 63) (z := h w 0) (t := 0) dX0_drawnFor_10 fwX0_28 (by decide) rfl (by decide) rfl rfl a7 ?_
  refine a_icmp_eq (tgt := 29) dX0_drawnFor_13 (by decide) (fun c13_1 => ?_) (fun c13_1 => ?_)
  · refine a_aload_n (j := 0) dX0_drawnFor_29 rfl rfl (Nat.le_of_ble_eq_true rfl) ?_
    exact a_aret dX0_drawnFor_30 rfl (Or.inl ⟨_, rfl⟩) (Nat.le_of_ble_eq_true rfl) (kQ h7 (Fr_m (by decide) hF7) a7 b7 e7 t7 ((Fr_v hF7 (by decide)).trans hκ0) ((Fr_v hF7 (by decide)).trans (by omega)) (CHp_fr (hF7 83 (by decide)) (hCH (by omega))))
  · refine a_aload_n (j := 0) dX0_drawnFor_16 rfl rfl (Nat.le_of_ble_eq_true rfl) ?_
    refine a_aload_n (j := 1) dX0_drawnFor_17 rfl rfl (Nat.le_of_ble_eq_true rfl) ?_
    refine b_get (a := 63) (z := h w 0) (t := 0) dX0_drawnFor_18 fwX0_28 (by decide) rfl (by decide) rfl rfl a7 ?_
    refine b_put (a := 82) (v := vI (h w 0)) dX0_drawnFor_21 pwX0_15 (fun h => nomatch h) (by decide) rfl (by decide) rfl rfl (fit_int _) ?_
    show Aj γ mX0_drawnFor d 0 0 Post 24 [(0, vA 82), (1, vA 63), (2, vA w)] [] (mk (up2 h7 82 2 (h w 0)) τ)
    refine a_aload_n (j := 0) dX0_drawnFor_24 rfl rfl (Nat.le_of_ble_eq_true rfl) ?_
    refine a_aload_n (j := 1) dX0_drawnFor_25 rfl rfl (Nat.le_of_ble_eq_true rfl) ?_
    refine b_callV (d' := d - 1) (mc' := 0) (ms' := 0) (mc1 := 0) (ms1 := 0) (st := []) (b := 82) [vA 63] dX0_drawnFor_26 mwX0_fillRow lkX0_29 (by decide) rfl rc_X0 rfl (Nat.le_of_ble_eq_true rfl) (by omega) rfl rfl (c_X0_fillRow_82 (κ := κ) (T := tt N) (by omega) ((up2_ne (by decide)).trans ((Fr_v hF7 (by decide)).trans hκ0)) hκ (tt_OK hv) (TT_fr (L := [82]) (by decide) (Fr_u (by decide) Fr_r) t7) (fun h8 hF8 j8 k8 => ?_))
    show Aj γ mX0_drawnFor d 0 0 Post 29 [(0, vA 82), (1, vA 63), (2, vA w)] [] (mk h8 τ)
    refine a_aload_n (j := 0) dX0_drawnFor_29 rfl rfl (Nat.le_of_ble_eq_true rfl) ?_
    exact a_aret dX0_drawnFor_30 rfl (Or.inl ⟨_, rfl⟩) (Nat.le_of_ble_eq_true rfl) (kQ h8 (Fr_t (Fr_m (by decide) hF7) (Fr_t (Fr_u (by decide) Fr_r) (Fr_m (by decide) hF8))) ((Fr_v hF8 (by decide)).trans ((up2_ne (by decide)).trans a7)) ((Fr_v hF8 (by decide)).trans ((up2_ne (by decide)).trans b7)) ((Fr_v hF8 (by decide)).trans ((up2_ne (by decide)).trans e7)) (TT_fr (by decide) hF8 (TT_fr (L := [82]) (by decide) (Fr_u (by decide) Fr_r) t7)) ((j8 0 (by decide)).trans ((up2_ne (by decide)).trans ((Fr_v hF7 (by decide)).trans hκ0))) ((j8 2 (by decide)).trans up2_at) k8)
