/-! THE CLASS'S WORLD w AND A ROW N OF THE REFERENCE -/
abbrev hwF (v a b : Int) : Int := hw v a b
theorem hwF_id {v a b : Int} (h1 : a ≤ v) (h2 : v ≤ b) : hwF v a b = v := by
  show hw v a b = v
  unfold hw; rw [if_neg (by omega), if_neg (by omega)]
theorem hwF_rng {v a b : Int} (h : a ≤ b) : a ≤ hwF v a b ∧ hwF v a b ≤ b := hw_rng h
def TX (τ : List AC) (N : Nat → Int) (t q : Nat) : Prop := ∃ ft : Nat → Int, τ[q]? = some (4, 3, ft) ∧ ft 0 = N (173 + 2 * t) / 1000 ∧ ft 1 = N (173 + 2 * t + 1) ∧ ∃ (q2 : Nat) (cx : Nat → Int), ft 2 = ((154 + q2 : Nat) : Int) ∧ τ[q2]? = some (12, lnN N t, cx) ∧ ∀ k, k < lnN N t → okX (cx k) ∧ cmX (cx k) = cdN N t k
def txR (h : Nat → Nat → Int) (τ : List AC) (c : Nat) (N : Nat → Int) : Prop := ∀ t : Nat, (t : Int) < N 6 → ∃ q : Nat, h c t = ((154 + q : Nat) : Int) ∧ TX τ N t q
def hsF (z : Int) : Int := if z < 0 then -1000000005 else z
def trW (h : Nat → Nat → Int) (a : Nat) (N : Nat → Int) (t : Nat) : Prop := h a 0 = N (15 + 11 * t) ∧ h a 1 = N (16 + 11 * t) ∧ h a 2 = N (17 + 11 * t) ∧ h a 3 = N (18 + 11 * t) ∧ h a 4 = N (19 + 11 * t) ∧ h a 5 = N (20 + 11 * t) ∧ h a 6 = hsF (N (21 + 11 * t)) ∧ ∀ s, s < 4 → h (a + 1) s = N (22 + 11 * t + s)
def scR (h : Nat → Nat → Int) (w : Nat) (N : Nat → Int) : Prop := h w 1 = N 4 ∧ h w 3 = N 5 ∧ h w 5 = N 6 ∧ h w 7 = N 7 ∧ h w 9 = N 2 ∧ h w 10 = N 3 ∧ h w 11 = N 1 ∧ h w 12 = N 8 ∧ h w 15 = N 0
def WR (h : Nat → Nat → Int) (τ : List AC) (w : Nat) (N : Nat → Int) : Prop := scR h w N ∧ (∀ s : Nat, (s : Int) < N 4 → h (w + 1) s = N (9 + s)) ∧ (∀ t : Nat, (t : Int) < N 5 → trW h (w + 7 + 2 * t) N t) ∧ txR h τ (w + 3) N ∧ (∀ k : Nat, (k : Int) < N 7 → h (w + 4) k = N (147 + k)) ∧ ∀ g : Nat, (g : Int) < N 8 → h (w + 5) g = N (153 + 2 * g) ∧ h (w + 6) g = N (153 + 2 * g + 1)
theorem trW_fr {h h' : Nat → Nat → Int} {a t : Nat} {N : Nat → Int} (h1 : h' a = h a) (h2 : h' (a + 1) = h (a + 1)) (hW : trW h a N t) : trW h' a N t := by
  unfold trW
  rw [h1, h2]
  exact hW
theorem evL_cd {fa cd ce : Nat → Int} {n : Nat} (hc : ∀ k, k < n → cd k = ce k) : ∀ k, k ≤ n → evL fa cd k = evL fa ce k
  | 0, _ => rfl
  | k + 1, hk => by
    show evS fa (cd k) (evL fa cd k) = evS fa (ce k) (evL fa ce k)
    rw [evL_cd hc k (by omega), hc k (by omega)]
theorem dpt_cd {cd ce : Nat → Int} {n : Nat} (hc : ∀ k, k < n → cd k = ce k) : ∀ k, k ≤ n → dpt cd k = dpt ce k
  | 0, _ => rfl
  | k + 1, hk => by
    unfold dpt
    rw [dpt_cd hc k (by omega), hc k (by omega)]
theorem wfC_cd {cd ce : Nat → Int} {n : Nat} (hc : ∀ k, k < n → cd k = ce k) (h : wfC ce n) : wfC cd n := by
  refine ⟨(dpt_cd hc n (Nat.le_refl n)).trans h.1, fun k hk => ?_⟩
  rw [dpt_cd hc k (by omega), hc k hk]
  exact h.2 k hk
theorem fc3_z {a b c z : Int} (h1 : 10000 ≤ z) (h2 : z ≤ 10002) : fc3 a b c (Int.toNat (z - 10000)) = if z - 10000 = 0 then a else if z - 10000 = 1 then b else c := by
  unfold fc3
  rcases (show z = 10000 ∨ z = 10001 ∨ z = 10002 by omega) with rfl | rfl | rfl <;> rfl
theorem c_X4_worthN {γ : GT} {d : Nat} {q t : Nat} {a b c : Int} {N : Nat → Int} {h : Nat → Nat → Int} {τ : List AC} {Post : Option AV → List AC → Prop} (hd : 1 ≤ d) (hx : txOK N) (ht : (t : Int) < N 6) (hq : TX τ N t q) (kQ : ∀ g : Nat → Int, Post (some (vI (woN N t (fc3 a b c)))) (mk (upR h 75 g) τ)) : Cj γ mX4_worth d 0 0 [vA (154 + q), vA 75, vI a, vI b, vI c] (mk h τ) Post := by
  obtain ⟨ft, q1, _, _, q2, cx, q3, q4, q5⟩ := hq
  have h3 := hx.2.2 t ht
  refine c_X4_worth (fa := fc3 a b c) hd (by unfold lnN; omega) q1 q3 q4 (fun k hk => (q5 k hk).1) (wfC_cd (fun k hk => (q5 k hk).2) h3.2.1) (fun z h1 h2 => fc3_z h1 h2) (fun g => ?_)
  have e : wrF (fc3 a b c) (fun j => cmX (cx j)) (lnN N t) = woN N t (fc3 a b c) := by
    unfold woN wrF
    rw [evL_cd (fun k hk => (q5 k hk).2) _ (Nat.le_refl _)]
  rw [e]
  exact kQ g
theorem c_X7_law {γ : GT} {d : Nat} {w : Nat} {key : Int} {N : Nat → Int} {h : Nat → Nat → Int} {τ : List AC} {Post : Option AV → List AC → Prop} (hd : 1 ≤ d) (hw : isWd w) (hn6 : h w 5 = N 6) (hx : txOK N) (hT : txR h τ (w + 3) N) (kN : cnN N key < 0 → Post (some vN) (mk h τ)) (kS : ∀ ct q : Nat, cnN N key = (ct : Int) → TX τ N ct q → Post (some (vA (154 + q))) (mk h τ)) : Cj γ mX7_law d 0 0 [vA w, vI key] (mk h τ) Post := by
  have hw_ : w = 1 ∨ w = 32 := hw
  have hx1 := hx.1
  have hcn := cnN_rng hx key
  refine c_of (by decide) (Nat.le_of_ble_eq_true rfl) ?_
  by_cases c : cnN N key < 0
  · show Aj γ mX7_law d 0 0 Post 0 [(0, vA w), (1, vI key)] [] (mk h τ)
    refine a_aload_n (j := 0) dX7_law_0 rfl rfl (Nat.le_of_ble_eq_true rfl) ?_
    refine a_iload_n (j := 1) dX7_law_1 rfl rfl ?_
    refine b_callV (d' := d - 1) (mc' := 0) (ms' := 0) (mc1 := 0) (ms1 := 0) (st := []) (b := w) [vI key] dX7_law_2 mwX7_countingText lkX7_86 (by rcases hw with rfl | rfl <;> decide) (by rcases hw with rfl | rfl <;> rfl) rc_X7 rfl (Nat.le_of_ble_eq_true rfl) (by omega) rfl rfl (c_X7_countingText (kx := fun t => N (173 + 2 * t) / 1000) (v := N 6) (by omega) hw hn6 (by omega) (fun t ht => ?_) ?_)
    · obtain ⟨q, e, ft, e1, e2, _⟩ := hT t (by omega)
      exact ⟨q, ft, e, e1, e2⟩
    show Aj γ mX7_law d 0 0 Post 5 [(0, vA w), (1, vI key)] [vI (if cnN N key < 0 then -1000000005 else cnN N key)] (mk h τ)
    rw [if_pos c]
    refine a_istore_n (lv' := [(2, vI (-1000000005)), (0, vA w), (1, vI key)]) dX7_law_5 rfl (by decide) rfl ?_
    refine a_iload_n (j := 0) dX7_law_6 rfl rfl ?_
    refine a_ldc (z := (-1000000005)) dX7_law_7 kwX7_85 ⟨by decide, by decide, by decide⟩ ?_
    refine a_icmp_ne (tgt := 16) dX7_law_9 (by decide) (fun c => absurd c (by decide)) (fun _ => ?_)
    refine a_null dX7_law_12 ?_
    refine a_goto (tgt := 22) dX7_law_13 (by decide) ?_
    exact a_aret dX7_law_22 rfl (Or.inl ⟨_, rfl⟩) (Nat.le_of_ble_eq_true rfl) (kN c)
  · obtain ⟨ct, hct⟩ : ∃ ct : Nat, cnN N key = (ct : Int) := ⟨Int.toNat (cnN N key), by omega⟩
    obtain ⟨q, hz, hq⟩ := hT ct (by omega)
    show Aj γ mX7_law d 0 0 Post 0 [(0, vA w), (1, vI key)] [] (mk h τ)
    refine a_aload_n (j := 0) dX7_law_0 rfl rfl (Nat.le_of_ble_eq_true rfl) ?_
    refine a_iload_n (j := 1) dX7_law_1 rfl rfl ?_
    refine b_callV (d' := d - 1) (mc' := 0) (ms' := 0) (mc1 := 0) (ms1 := 0) (st := []) (b := w) [vI key] dX7_law_2 mwX7_countingText lkX7_86 (by rcases hw with rfl | rfl <;> decide) (by rcases hw with rfl | rfl <;> rfl) rc_X7 rfl (Nat.le_of_ble_eq_true rfl) (by omega) rfl rfl (c_X7_countingText (kx := fun t => N (173 + 2 * t) / 1000) (v := N 6) (by omega) hw hn6 (by omega) (fun t ht => ?_) ?_)
    · obtain ⟨q, e, ft, e1, e2, _⟩ := hT t (by omega)
      exact ⟨q, ft, e, e1, e2⟩
    show Aj γ mX7_law d 0 0 Post 5 [(0, vA w), (1, vI key)] [vI (if cnN N key < 0 then -1000000005 else cnN N key)] (mk h τ)
    rw [if_neg c, hct]
    refine a_istore_n (lv' := [(2, vI ((ct : Nat) : Int)), (0, vA w), (1, vI key)]) dX7_law_5 rfl (by decide) rfl ?_
    refine a_iload_n (j := 0) dX7_law_6 rfl rfl ?_
    refine a_ldc (z := (-1000000005)) dX7_law_7 kwX7_85 ⟨by decide, by decide, by decide⟩ ?_
    refine a_icmp_ne (tgt := 16) dX7_law_9 (by decide) (fun c9_1 => ?_) (fun c9_1 => absurd c9_1 (by omega))
    refine a_aload_n (j := 1) dX7_law_16 rfl rfl (Nat.le_of_ble_eq_true rfl) ?_
    refine b_getp (a := w) (p := (w + 3)) dX7_law_17 fwX7_23 (by rcases hw with rfl | rfl <;> decide) (by rcases hw with rfl | rfl <;> rfl) (by decide) (by rcases hw with rfl | rfl <;> rfl) rfl ?_
    refine a_iload_n (j := 0) dX7_law_20 rfl rfl ?_
    refine b_aaload (a := (w + 3)) (z := (((154 + q) : Nat) : Int)) ct dX7_law_21 (by rcases hw with rfl | rfl <;> decide) (by rcases hw with rfl | rfl <;> rfl) qa_17 rfl (by omega) (by rcases hw with rfl | rfl <;> exact sp_nil rfl _) hz ?_
    exact a_aret dX7_law_22 rfl (Or.inl ⟨_, rfl⟩) (Nat.le_of_ble_eq_true rfl) (kS ct q hct hq)
theorem txR_fr {h h' : Nat → Nat → Int} {τ : List AC} {c : Nat} {N : Nat → Int} (e : h' c = h c) (hT : txR h τ c N) : txR h' τ c N := fun t ht => by
  obtain ⟨q, h1, h2⟩ := hT t ht
  exact ⟨q, by rw [e]; exact h1, h2⟩
set_option maxHeartbeats 8000000 in
theorem l_rwN {γ : GT} {d : Nat} {w n q ctq : Nat} {N : Nat → Int} {h : Nat → Nat → Int} {τ : List AC} {Post : Option AV → List AC → Prop} (hd : 3 ≤ d) (hw : isWd w) (hR : WR h τ w N) (hv : NV N) (hn : N 4 = ((n : Nat) : Int)) (hn6 : n ≤ 6) (cq : cnN N 2 < 0) (kE : ∀ h', Fr [64, 75] h h' → (∀ s : Nat, s < n → h' 64 s = wkN N s) → Post none (mk h' τ)) :
    ∀ (f i : Nat) (h1 : Nat → Nat → Int), i ≤ n → n < i + f → Fr [64, 75] h h1 → (∀ s : Nat, s < i → h1 64 s = wkN N s) → Aj γ mX5_readWalks d 0 0 Post 8 [(3, vI ((i : Nat) : Int)), (2, vN), (0, vA 63), (1, vA w)] [] (mk h1 τ) := by
  intro f
  induction f with
  | zero => intro i h1  h1_ h2_; omega
  | succ f ih =>
    intro i h1  h1_ h2_ hF iv
    have hw_ : w = 1 ∨ w = 32 := hw
    have hx1 := hv.2.2.2.1
    have hcn := cnN_rng hv.2.2.2 2
    refine a_iload_n (j := 0) dX5_readWalks_8 rfl rfl ?_
    refine a_aload_n (j := 3) dX5_readWalks_9 rfl rfl (Nat.le_of_ble_eq_true rfl) ?_
    refine b_get (a := w) (z := N 4) (t := 0) dX5_readWalks_10 fwX5_88 (by rcases hw with rfl | rfl <;> decide) (by rcases hw with rfl | rfl <;> rfl) (by decide) (by rcases hw with rfl | rfl <;> rfl) rfl ((Fr_v hF (by simp only [List.mem_cons, List.not_mem_nil, or_false]; omega)).trans hR.1.1) ?_
    refine a_icmp_ge (tgt := 70) dX5_readWalks_13 (by decide) (fun c13_1 => ?_) (fun c13_1 => ?_)
    · exact a_vret dX5_readWalks_70 rfl (kE _ hF (fun s hs => iv s (by omega)))
    · refine a_aload_n (j := 1) dX5_readWalks_16 rfl rfl (Nat.le_of_ble_eq_true rfl) ?_
      refine a_ifnonnull (tgt := 29) dX5_readWalks_17 (by decide) (fun c => absurd c (by decide)) (fun _ => ?_)
      refine a_aload_n (j := 3) dX5_readWalks_20 rfl rfl (Nat.le_of_ble_eq_true rfl) ?_
      refine b_getp (a := w) (p := (w + 1)) dX5_readWalks_21 fwX5_91 (by rcases hw with rfl | rfl <;> decide) (by rcases hw with rfl | rfl <;> rfl) (by decide) (by rcases hw with rfl | rfl <;> rfl) rfl ?_
      refine a_iload_n (j := 0) dX5_readWalks_24 rfl rfl ?_
      refine b_iaload (a := (w + 1)) (z := N (9 + i)) i dX5_readWalks_25 (by rcases hw with rfl | rfl <;> decide) (by rcases hw with rfl | rfl <;> rfl) rfl (by omega) (by rcases hw with rfl | rfl <;> exact sp_nil rfl _) ((Fr_v hF (by simp only [List.mem_cons, List.not_mem_nil, or_false]; omega)).trans (hR.2.1 i (by omega))) (fun r25_2 => ?_)
      refine a_goto (tgt := 48) dX5_readWalks_26 (by decide) ?_
      refine a_istore (lv' := [(4, vI (N (9 + i))), (3, vI ((i : Nat) : Int)), (2, vN), (0, vA 63), (1, vA w)]) dX5_readWalks_48 (by decide) rfl ?_
      refine a_aload_n (j := 3) dX5_readWalks_50 rfl rfl (Nat.le_of_ble_eq_true rfl) ?_
      refine b_getp (a := 63) (p := 64) dX5_readWalks_51 fwX5_15 (by decide) rfl (by decide) rfl rfl ?_
      refine a_iload_n (j := 1) dX5_readWalks_54 rfl rfl ?_
      refine a_iload (j := 0) dX5_readWalks_55 rfl ?_
      refine a_iconst dX5_readWalks_57 ⟨by decide, by decide⟩ ?_
      refine a_bipush dX5_readWalks_58 ⟨by decide, by decide, by decide⟩ ?_
      refine a_callS (d' := d - 1) (mc' := 0) (ms' := 0) (mc1 := 0) (ms1 := 0) (st := [vI ((i : Nat) : Int), vA 64]) [vI (N (9 + i)), vI 0, vI 99] dX5_readWalks_60 mwX8_heldWithin lkX5_101 rfl (Nat.le_of_ble_eq_true rfl) (by omega) rfl rfl (c_X8_heldWithin  (by omega)   (show 0 ≤ 99 by omega) ?_)
      show Aj γ mX5_readWalks d 0 0 Post 63 [(4, vI (N (9 + i))), (3, vI ((i : Nat) : Int)), (2, vN), (0, vA 63), (1, vA w)] [vI (hwF (N (9 + i)) 0 99), vI ((i : Nat) : Int), vA 64] (mk h1 τ)
      refine b_iastore (a := 64) i dX5_readWalks_63 (by decide) rfl rfl (by omega) (sp_nil rfl _) ?_
      refine a_iinc (j := 1) (z' := ((i + 1 : Nat) : Int)) (lv' := [(3, vI ((i + 1 : Nat) : Int)), (4, vI (N (9 + i))), (2, vN), (0, vA 63), (1, vA w)]) dX5_readWalks_64 rfl (w_okN (by omega) (by omega) (by omega)) (by decide) rfl ?_
      refine a_goto (tgt := 8) dX5_readWalks_67 (by decide) ?_
      have hvv : (hwF (N (9 + i)) 0 99) = wkN N i := by
        have hs := hv.2.1 i (by omega)
        unfold wkN; rw [if_pos cq, hwF_id (by omega) (by omega)]
      refine a_lv (lv' := [(3, vI (((i + 1) : Nat) : Int)), (2, vN), (0, vA 63), (1, vA w)]) (by intro q hq; simp only [List.mem_cons, List.not_mem_nil, or_false] at hq ⊢; rcases hq with rfl | rfl | rfl | rfl <;> simp) (ih (i + 1) (up2 h1 64 i (hwF (N (9 + i)) 0 99))  (by omega) (by omega) (Fr_u (by decide) (Fr_m (by decide) hF)) (fun s hs => by
          by_cases c : s = i
          · subst c; exact up2_at.trans hvv
          · exact (((up2_ne (by omega)).trans rfl)).trans (iv s (by omega))))
set_option maxHeartbeats 8000000 in
theorem l_rwS {γ : GT} {d : Nat} {w n q ctq : Nat} {N : Nat → Int} {h : Nat → Nat → Int} {τ : List AC} {Post : Option AV → List AC → Prop} (hd : 3 ≤ d) (hw : isWd w) (hR : WR h τ w N) (hv : NV N) (hn : N 4 = ((n : Nat) : Int)) (hn6 : n ≤ 6) (hctq : cnN N 2 = (ctq : Int)) (hxq : TX τ N ctq q) (kE : ∀ h', Fr [64, 75] h h' → (∀ s : Nat, s < n → h' 64 s = wkN N s) → Post none (mk h' τ)) :
    ∀ (f i : Nat) (h1 : Nat → Nat → Int), i ≤ n → n < i + f → Fr [64, 75] h h1 → (∀ s : Nat, s < i → h1 64 s = wkN N s) → Aj γ mX5_readWalks d 0 0 Post 8 [(3, vI ((i : Nat) : Int)), (2, vA (154 + q)), (0, vA 63), (1, vA w)] [] (mk h1 τ) := by
  intro f
  induction f with
  | zero => intro i h1  h1_ h2_; omega
  | succ f ih =>
    intro i h1  h1_ h2_ hF iv
    have hw_ : w = 1 ∨ w = 32 := hw
    have hx1 := hv.2.2.2.1
    have hcn := cnN_rng hv.2.2.2 2
    refine a_iload_n (j := 0) dX5_readWalks_8 rfl rfl ?_
    refine a_aload_n (j := 3) dX5_readWalks_9 rfl rfl (Nat.le_of_ble_eq_true rfl) ?_
    refine b_get (a := w) (z := N 4) (t := 0) dX5_readWalks_10 fwX5_88 (by rcases hw with rfl | rfl <;> decide) (by rcases hw with rfl | rfl <;> rfl) (by decide) (by rcases hw with rfl | rfl <;> rfl) rfl ((Fr_v hF (by simp only [List.mem_cons, List.not_mem_nil, or_false]; omega)).trans hR.1.1) ?_
    refine a_icmp_ge (tgt := 70) dX5_readWalks_13 (by decide) (fun c13_1 => ?_) (fun c13_1 => ?_)
    · exact a_vret dX5_readWalks_70 rfl (kE _ hF (fun s hs => iv s (by omega)))
    · refine a_aload_n (j := 1) dX5_readWalks_16 rfl rfl (Nat.le_of_ble_eq_true rfl) ?_
      refine a_ifnonnull (tgt := 29) dX5_readWalks_17 (by decide) (fun _ => ?_) (fun c => absurd c (by omega))
      refine a_aload_n (j := 1) dX5_readWalks_29 rfl rfl (Nat.le_of_ble_eq_true rfl) ?_
      refine a_aload_n (j := 2) dX5_readWalks_30 rfl rfl (Nat.le_of_ble_eq_true rfl) ?_
      refine b_getp (a := 63) (p := 75) dX5_readWalks_31 fwX5_49 (by decide) rfl (by decide) rfl rfl ?_
      refine a_iload_n (j := 0) dX5_readWalks_34 rfl rfl ?_
      refine a_aload_n (j := 3) dX5_readWalks_35 rfl rfl (Nat.le_of_ble_eq_true rfl) ?_
      refine b_getp (a := w) (p := (w + 1)) dX5_readWalks_36 fwX5_91 (by rcases hw with rfl | rfl <;> decide) (by rcases hw with rfl | rfl <;> rfl) (by decide) (by rcases hw with rfl | rfl <;> rfl) rfl ?_
      refine a_iload_n (j := 0) dX5_readWalks_39 rfl rfl ?_
      refine b_iaload (a := (w + 1)) (z := N (9 + i)) i dX5_readWalks_40 (by rcases hw with rfl | rfl <;> decide) (by rcases hw with rfl | rfl <;> rfl) rfl (by omega) (by rcases hw with rfl | rfl <;> exact sp_nil rfl _) ((Fr_v hF (by simp only [List.mem_cons, List.not_mem_nil, or_false]; omega)).trans (hR.2.1 i (by omega))) (fun r40_2 => ?_)
      refine a_aload_n (j := 3) dX5_readWalks_41 rfl rfl (Nat.le_of_ble_eq_true rfl) ?_
      refine b_get (a := w) (z := N 1) (t := 0) dX5_readWalks_42 fwX5_92 (by rcases hw with rfl | rfl <;> decide) (by rcases hw with rfl | rfl <;> rfl) (by decide) (by rcases hw with rfl | rfl <;> rfl) rfl ((Fr_v hF (by simp only [List.mem_cons, List.not_mem_nil, or_false]; omega)).trans hR.1.2.2.2.2.2.2.1) ?_
      obtain ⟨ftq, hqq, hqq_⟩ := id hxq
      refine a_callV (d' := d - 1) (mc' := 0) (ms' := 0) (mc1 := 0) (ms1 := 0) (st := []) (b := (154 + q)) (κ := 4) (n := 3) (f := ftq) [vA 75, vI ((i : Nat) : Int), vI (N (9 + i)), vI (N 1)] dX5_readWalks_45 mwX4_worth lkX5_95 ((mk_dyn q).trans hqq) rc_X4 rfl (Nat.le_of_ble_eq_true rfl) (by omega) rfl rfl (c_X4_worthN (N := N) (t := ctq) (by omega) hv.2.2.2 (by omega) hxq (fun g3 => ?_))
      show Aj γ mX5_readWalks d 0 0 Post 48 [(3, vI ((i : Nat) : Int)), (2, vA (154 + q)), (0, vA 63), (1, vA w)] [vI (woN N ctq (fc3 ((i : Nat) : Int) (N (9 + i)) (N 1)))] (mk (upR h1 75 g3) τ)
      refine a_istore (lv' := [(4, vI (woN N ctq (fc3 ((i : Nat) : Int) (N (9 + i)) (N 1)))), (3, vI ((i : Nat) : Int)), (2, vA (154 + q)), (0, vA 63), (1, vA w)]) dX5_readWalks_48 (by decide) rfl ?_
      refine a_aload_n (j := 3) dX5_readWalks_50 rfl rfl (Nat.le_of_ble_eq_true rfl) ?_
      refine b_getp (a := 63) (p := 64) dX5_readWalks_51 fwX5_15 (by decide) rfl (by decide) rfl rfl ?_
      refine a_iload_n (j := 1) dX5_readWalks_54 rfl rfl ?_
      refine a_iload (j := 0) dX5_readWalks_55 rfl ?_
      refine a_iconst dX5_readWalks_57 ⟨by decide, by decide⟩ ?_
      refine a_bipush dX5_readWalks_58 ⟨by decide, by decide, by decide⟩ ?_
      refine a_callS (d' := d - 1) (mc' := 0) (ms' := 0) (mc1 := 0) (ms1 := 0) (st := [vI ((i : Nat) : Int), vA 64]) [vI (woN N ctq (fc3 ((i : Nat) : Int) (N (9 + i)) (N 1))), vI 0, vI 99] dX5_readWalks_60 mwX8_heldWithin lkX5_101 rfl (Nat.le_of_ble_eq_true rfl) (by omega) rfl rfl (c_X8_heldWithin  (by omega)   (show 0 ≤ 99 by omega) ?_)
      show Aj γ mX5_readWalks d 0 0 Post 63 [(4, vI (woN N ctq (fc3 ((i : Nat) : Int) (N (9 + i)) (N 1)))), (3, vI ((i : Nat) : Int)), (2, vA (154 + q)), (0, vA 63), (1, vA w)] [vI (hwF (woN N ctq (fc3 ((i : Nat) : Int) (N (9 + i)) (N 1))) 0 99), vI ((i : Nat) : Int), vA 64] (mk (upR h1 75 g3) τ)
      refine b_iastore (a := 64) i dX5_readWalks_63 (by decide) rfl rfl (by omega) (sp_nil rfl _) ?_
      refine a_iinc (j := 1) (z' := ((i + 1 : Nat) : Int)) (lv' := [(3, vI ((i + 1 : Nat) : Int)), (4, vI (woN N ctq (fc3 ((i : Nat) : Int) (N (9 + i)) (N 1)))), (2, vA (154 + q)), (0, vA 63), (1, vA w)]) dX5_readWalks_64 rfl (w_okN (by omega) (by omega) (by omega)) (by decide) rfl ?_
      refine a_goto (tgt := 8) dX5_readWalks_67 (by decide) ?_
      have hvv : (hwF (woN N ctq (fc3 ((i : Nat) : Int) (N (9 + i)) (N 1))) 0 99) = wkN N i := by
        unfold wkN; rw [if_neg (by omega), hctq]; rfl
      refine a_lv (lv' := [(3, vI (((i + 1) : Nat) : Int)), (2, vA (154 + q)), (0, vA 63), (1, vA w)]) (by intro q hq; simp only [List.mem_cons, List.not_mem_nil, or_false] at hq ⊢; rcases hq with rfl | rfl | rfl | rfl <;> simp) (ih (i + 1) (up2 (upR h1 75 g3) 64 i (hwF (woN N ctq (fc3 ((i : Nat) : Int) (N (9 + i)) (N 1))) 0 99))  (by omega) (by omega) (Fr_u (by decide) (Fr_R (by decide) (Fr_m (by decide) hF))) (fun s hs => by
          by_cases c : s = i
          · subst c; exact up2_at.trans hvv
          · exact (((up2_ne (by omega)).trans ((upR_ne (by omega)).trans rfl))).trans (iv s (by omega))))
theorem c_X5_readWalks {γ : GT} {d : Nat} {w : Nat} {N : Nat → Int} {h : Nat → Nat → Int} {τ : List AC} {Post : Option AV → List AC → Prop} (hd : 3 ≤ d) (hw : isWd w) (hR : WR h τ w N) (hv : NV N) (kQ : ∀ h', Fr [64, 75] h h' → (∀ s : Nat, (s : Int) < N 4 → h' 64 s = wkN N s) → Post none (mk h' τ)) : Cj γ mX5_readWalks d 0 0 [vA 63, vA w] (mk h τ) Post := by
  have hw_ : w = 1 ∨ w = 32 := hw
  have hs4 := hv.1.2.2.2.1
  obtain ⟨n4, hn4⟩ : ∃ n4 : Nat, N 4 = (n4 : Int) := ⟨Int.toNat (N 4), by omega⟩
  refine c_of (by decide) (Nat.le_of_ble_eq_true rfl) ?_
  show Aj γ mX5_readWalks d 0 0 Post 0 [(0, vA 63), (1, vA w)] [] (mk h τ)
  refine a_aload_n (j := 1) dX5_readWalks_0 rfl rfl (Nat.le_of_ble_eq_true rfl) ?_
  refine a_iconst dX5_readWalks_1 ⟨by decide, by decide⟩ ?_
  refine b_callV (d' := d - 1) (mc' := 0) (ms' := 0) (mc1 := 0) (ms1 := 0) (st := []) (b := w) [vI 2] dX5_readWalks_2 mwX7_law lkX5_84 (by rcases hw with rfl | rfl <;> decide) (by rcases hw with rfl | rfl <;> rfl) rc_X7 rfl (Nat.le_of_ble_eq_true rfl) (by omega) rfl rfl (c_X7_law (N := N) (by omega) hw hR.1.2.2.1 hv.2.2.2 hR.2.2.2.1 (fun cq => ?_) (fun ctq q hctq hxq => ?_))
  · show Aj γ mX5_readWalks d 0 0 Post 5 [(0, vA 63), (1, vA w)] [vN] (mk h τ)
    refine a_astore_n (lv' := [(2, vN), (0, vA 63), (1, vA w)]) dX5_readWalks_5 rfl (by decide) (Nat.le_of_ble_eq_true rfl) rfl ?_
    refine a_iconst dX5_readWalks_6 ⟨by decide, by decide⟩ ?_
    refine a_istore_n (lv' := [(3, vI 0), (2, vN), (0, vA 63), (1, vA w)]) dX5_readWalks_7 rfl (by decide) rfl ?_
    refine a_lv (lv' := [(3, vI ((0 : Nat) : Int)), (2, vN), (0, vA 63), (1, vA w)]) (by intro q hq; simp only [List.mem_cons, List.not_mem_nil, or_false] at hq ⊢; rcases hq with rfl | rfl | rfl | rfl <;> simp) (l_rwN (n := n4) (q := 0) (ctq := 0) hd hw hR hv hn4 (by omega) cq (fun h' hF hi => kQ h' hF (fun s hs => hi s (by omega))) (n4 + 1) 0 h (by omega) (by omega) Fr_r (fun s hs => by omega))
  · show Aj γ mX5_readWalks d 0 0 Post 5 [(0, vA 63), (1, vA w)] [vA (154 + q)] (mk h τ)
    refine a_astore_n (lv' := [(2, vA (154 + q)), (0, vA 63), (1, vA w)]) dX5_readWalks_5 rfl (by decide) (Nat.le_of_ble_eq_true rfl) rfl ?_
    refine a_iconst dX5_readWalks_6 ⟨by decide, by decide⟩ ?_
    refine a_istore_n (lv' := [(3, vI 0), (2, vA (154 + q)), (0, vA 63), (1, vA w)]) dX5_readWalks_7 rfl (by decide) rfl ?_
    refine a_lv (lv' := [(3, vI ((0 : Nat) : Int)), (2, vA (154 + q)), (0, vA 63), (1, vA w)]) (by intro q hq; simp only [List.mem_cons, List.not_mem_nil, or_false] at hq ⊢; rcases hq with rfl | rfl | rfl | rfl <;> simp) (l_rwS (n := n4) hd hw hR hv hn4 (by omega) hctq hxq (fun h' hF hi => kQ h' hF (fun s hs => hi s (by omega))) (n4 + 1) 0 h (by omega) (by omega) Fr_r (fun s hs => by omega))
