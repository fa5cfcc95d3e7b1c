/-! THE REFERENCE'S CHARTS -/
def CWf (h T : Nat → Nat → Int) (lo : Int) : Prop := ∀ s m : Nat, (s : Int) < T 0 3 → ¬ (s : Int) = T 0 0 → lo ≤ (m : Int) → m < 1600 → h 133 (1600 * s + m) = WT 0 T s m ∧ h 134 (1600 * s + m) = TK T s m ∧ h 135 (1600 * s + m) = WT 1 T s m ∧ h 136 (1600 * s + m) = mcF (WT 2 T s m)
theorem CWf_fr {h h' T : Nat → Nat → Int} {lo : Int} (e3 : h' 133 = h 133) (e4 : h' 134 = h 134) (e5 : h' 135 = h 135) (e6 : h' 136 = h 136) (hC : CWf h T lo) : CWf h' T lo := by
  unfold CWf
  rw [e3, e4, e5, e6]
  exact hC
theorem c_X9_meanAtW {γ : GT} {d : Nat} {T : Nat → Nat → Int} {s m lo : Int} {h : Nat → Nat → Int} {τ : List AC} {Post : Option AV → List AC → Prop} (hd : 0 ≤ d) (hT : tOK T) (hRT : RT h T) (hC : CWf h T lo) (hs : 0 ≤ s ∧ s < T 0 3) (hm : 0 ≤ m ∧ m ≤ 5000) (hl : lo ≤ m) (kQ : Post (some (vI (WT 0 T s m))) (mk h τ)) : Cj γ mX9_meanAt d 0 0 [vA 123, vI s, vI m] (mk h τ) Post := by
  have h3 := hT.2.2.2.1
  refine c_X9_meanAt hd hRT.1.1.1 rfl (by omega) hm (post_v kQ (Eq.symm ?_))
  by_cases c : s = T 0 0
  · rw [if_pos c, c, WT_goal hT hm.1]; rfl
  · rw [if_neg c]
    by_cases c2 : m < 1600
    · rw [if_pos c2]
      have q := (hC (Int.toNat s) (Int.toNat m) (by omega) (by omega) (by omega) (by omega)).1
      rw [show ((Int.toNat s : Nat) : Int) = s by omega, show ((Int.toNat m : Nat) : Int) = m by omega, show 1600 * Int.toNat s + Int.toNat m = Int.toNat (1600 * s + m) by omega] at q
      exact q
    · rw [if_neg c2, WT_late hT c (by omega)]; rfl
theorem c_X9_takenAtW {γ : GT} {d : Nat} {T : Nat → Nat → Int} {s m lo : Int} {h : Nat → Nat → Int} {τ : List AC} {Post : Option AV → List AC → Prop} (hd : 0 ≤ d) (hT : tOK T) (hRT : RT h T) (hC : CWf h T lo) (hs : 0 ≤ s ∧ s < T 0 3) (hm : 0 ≤ m ∧ m ≤ 5000) (hl : lo ≤ m) (kQ : Post (some (vI (TK T s m))) (mk h τ)) : Cj γ mX9_takenAt d 0 0 [vA 123, vI s, vI m] (mk h τ) Post := by
  have h3 := hT.2.2.2.1
  have h2 := hT.2.2.1
  refine c_X9_takenAt hd hRT.1.1.1 rfl (by omega) hm (post_v kQ (Eq.symm ?_))
  by_cases c : s = T 0 0
  · rw [if_pos (Or.inl c)]; unfold TK; rw [if_pos c]
  · by_cases c2 : m < 1600
    · rw [if_neg (by omega)]
      have q := (hC (Int.toNat s) (Int.toNat m) (by omega) (by omega) (by omega) (by omega)).2.1
      rw [show ((Int.toNat s : Nat) : Int) = s by omega, show ((Int.toNat m : Nat) : Int) = m by omega, show 1600 * Int.toNat s + Int.toNat m = Int.toNat (1600 * s + m) by omega] at q
      exact q
    · rw [if_pos (by omega)]
      unfold TK
      rw [if_neg c, bsT_none (fun i hi he => by have := lsT_rng hT i; omega)]
theorem c_X9_sureAtW {γ : GT} {d : Nat} {T : Nat → Nat → Int} {s m lo : Int} {h : Nat → Nat → Int} {τ : List AC} {Post : Option AV → List AC → Prop} (hd : 0 ≤ d) (hT : tOK T) (hRT : RT h T) (hC : CWf h T lo) (hs : 0 ≤ s ∧ s < T 0 3) (hm : 0 ≤ m ∧ m ≤ 5000) (hl : lo ≤ m) (kQ : Post (some (vI (WT 1 T s m))) (mk h τ)) : Cj γ mX9_sureAt d 0 0 [vA 123, vI s, vI m] (mk h τ) Post := by
  have h3 := hT.2.2.2.1
  refine c_X9_sureAt hd hRT.1.1.1 hRT.1.1.2.1 rfl (by omega) hm (post_v kQ (Eq.symm ?_))
  by_cases c : s = T 0 0
  · rw [if_pos c, c, WT_goal hT hm.1]; rfl
  · rw [if_neg c]
    by_cases c2 : m < 1600
    · rw [if_pos c2]
      have q := (hC (Int.toNat s) (Int.toNat m) (by omega) (by omega) (by omega) (by omega)).2.2.1
      rw [show ((Int.toNat s : Nat) : Int) = s by omega, show ((Int.toNat m : Nat) : Int) = m by omega, show 1600 * Int.toNat s + Int.toNat m = Int.toNat (1600 * s + m) by omega] at q
      exact q
    · rw [if_neg c2, WT_late hT c (by omega)]; rfl
theorem c_X9_cheapAtW {γ : GT} {d : Nat} {T : Nat → Nat → Int} {s m lo : Int} {h : Nat → Nat → Int} {τ : List AC} {Post : Option AV → List AC → Prop} (hd : 0 ≤ d) (hT : tOK T) (hRT : RT h T) (hC : CWf h T lo) (hs : 0 ≤ s ∧ s < T 0 3) (hm : 0 ≤ m ∧ m ≤ 5000) (hl : lo ≤ m) (kQ : Post (some (vI (mcF (WT 2 T s m)))) (mk h τ)) : Cj γ mX9_cheapAt d 0 0 [vA 123, vI s, vI m] (mk h τ) Post := by
  have h3 := hT.2.2.2.1
  refine c_X9_cheapAt hd hRT.1.1.1 hRT.1.1.2.1 rfl (by omega) hm (post_v kQ (Eq.symm ?_))
  by_cases c : s = T 0 0
  · rw [if_pos c, c, WT_goal hT hm.1]
    show _ = mcF (if m ≤ T 0 1 then 0 else 2147483647)
    by_cases c3 : m ≤ T 0 1
    · rw [if_pos c3, if_pos c3]; rfl
    · rw [if_neg c3, if_neg c3]; rfl
  · rw [if_neg c]
    by_cases c2 : m < 1600
    · rw [if_pos c2]
      have q := (hC (Int.toNat s) (Int.toNat m) (by omega) (by omega) (by omega) (by omega)).2.2.2
      rw [show ((Int.toNat s : Nat) : Int) = s by omega, show ((Int.toNat m : Nat) : Int) = m by omega, show 1600 * Int.toNat s + Int.toNat m = Int.toNat (1600 * s + m) by omega] at q
      exact q
    · rw [if_neg c2, WT_late hT c (by omega)]; rfl
theorem mcF_c (v : Int) : (v = 2147483647 ∧ mcF v = 1000000000) ∨ (¬ v = 2147483647 ∧ mcF v = v) := by
  unfold mcF
  by_cases c : v = 2147483647
  · rw [if_pos c]; exact Or.inl ⟨c, rfl⟩
  · rw [if_neg c]; exact Or.inr ⟨c, rfl⟩
theorem mc_mx {a b : Int} (ha : a = 2147483647 ∨ a ≤ 4000000) (hb : b = 2147483647 ∨ b ≤ 4000000) : mcF (mxF a b) = if mcF a < mcF b then mcF b else mcF a := by
  have h1 := mcF_c a
  have h2 := mcF_c b
  unfold mxF
  by_cases c : a < b
  · rw [if_pos c, if_pos (by omega)]
  · rw [if_neg c]
    by_cases c2 : mcF a < mcF b
    · omega
    · rw [if_neg c2]
theorem bsT_neg (κ : Int) (T : Nat → Nat → Int) (g : Int → Int → Int) (stop m : Int) : ∀ n : Nat, (bsT κ T g stop m n).1 < 0 → (bsT κ T g stop m n).2 = wonF κ
  | 0, _ => rfl
  | n + 1, h => by
    rw [bsT_s] at h ⊢
    by_cases c : T 2 n = stop ∧ m ≤ lsT T n
    · rw [if_pos c] at h ⊢
      by_cases c2 : (bsT κ T g stop m n).1 < 0 ∨ ((κ = 1 ∧ (bsT κ T g stop m n).2 < bhT κ T g n m) ∨ (¬ κ = 1 ∧ bhT κ T g n m < (bsT κ T g stop m n).2))
      · rw [if_pos c2] at h
        have h : (n : Int) < 0 := h
        omega
      · rw [if_neg c2] at h ⊢
        exact bsT_neg κ T g stop m n h
    · rw [if_neg c] at h ⊢
      exact bsT_neg κ T g stop m n h
theorem bsT_skip {κ : Int} {T : Nat → Nat → Int} {g : Int → Int → Int} {stop m : Int} {n : Nat} (h : ¬ (T 2 n = stop ∧ m ≤ lsT T n)) : bsT κ T g stop m (n + 1) = bsT κ T g stop m n := by rw [bsT_s, if_neg h]
theorem bs0 {T : Nat → Nat → Int} {g : Int → Int → Int} {stop m : Int} {n : Nat} (h1 : T 2 n = stop) (h2 : m ≤ lsT T n) : bsT 0 T g stop m (n + 1) = if (bsT 0 T g stop m n).1 < 0 ∨ mnT T g n m 4 / 100 < (bsT 0 T g stop m n).2 then ((n : Int), mnT T g n m 4 / 100) else bsT 0 T g stop m n := by
  rw [bsT_s, if_pos ⟨h1, h2⟩]
  have e : bhT 0 T g n m = mnT T g n m 4 / 100 := if_neg (by decide)
  rw [e]
  by_cases c : (bsT 0 T g stop m n).1 < 0 ∨ mnT T g n m 4 / 100 < (bsT 0 T g stop m n).2
  · rw [if_pos c, if_pos (by omega)]
  · rw [if_neg c, if_neg (by omega)]
theorem bs1 {T : Nat → Nat → Int} {g : Int → Int → Int} {stop m : Int} {n : Nat} (h1 : T 2 n = stop) (h2 : m ≤ lsT T n) (h3 : 0 ≤ mnT T g n m 4 / 100) : (bsT 1 T g stop m (n + 1)).2 = if (bsT 1 T g stop m n).2 < mnT T g n m 4 / 100 then mnT T g n m 4 / 100 else (bsT 1 T g stop m n).2 := by
  rw [bsT_s, if_pos ⟨h1, h2⟩]
  have e : bhT 1 T g n m = mnT T g n m 4 / 100 := if_neg (by decide)
  have hn := bsT_neg 1 T g stop m n
  have hw : wonF 1 = 0 := rfl
  rw [e]
  by_cases c : (bsT 1 T g stop m n).2 < mnT T g n m 4 / 100
  · rw [if_pos c, if_pos (by omega)]
  · rw [if_neg c]
    by_cases c2 : (bsT 1 T g stop m n).1 < 0
    · have := hn c2
      rw [if_pos (Or.inl c2)]
      show mnT T g n m 4 / 100 = _
      omega
    · rw [if_neg (by omega)]
theorem bs2 {T : Nat → Nat → Int} {g : Int → Int → Int} {stop m X : Int} {n : Nat} (h1 : T 2 n = stop) (h2 : m ≤ lsT T n) (h3 : bhT 2 T g n m = 2147483647 ∨ bhT 2 T g n m ≤ 4000000) (h4 : (bsT 2 T g stop m n).2 = 2147483647 ∨ (bsT 2 T g stop m n).2 ≤ 4000000) (hX : mcF (bhT 2 T g n m) = X) : mcF (bsT 2 T g stop m (n + 1)).2 = if X < mcF (bsT 2 T g stop m n).2 then X else mcF (bsT 2 T g stop m n).2 := by
  rw [bsT_s, if_pos ⟨h1, h2⟩]
  have hn := bsT_neg 2 T g stop m n
  have hw : wonF 2 = 2147483647 := rfl
  have q1 := mcF_c (bhT 2 T g n m)
  have q2 := mcF_c (bsT 2 T g stop m n).2
  by_cases c2 : (bsT 2 T g stop m n).1 < 0
  · have := hn c2
    rw [if_pos (Or.inl c2)]
    show mcF (bhT 2 T g n m) = _
    by_cases c : X < mcF (bsT 2 T g stop m n).2
    · rw [if_pos c, hX]
    · rw [if_neg c]; omega
  · by_cases c3 : bhT 2 T g n m < (bsT 2 T g stop m n).2
    · rw [if_pos (by omega)]
      show mcF (bhT 2 T g n m) = _
      rw [if_pos (by omega), hX]
    · rw [if_neg (by omega), if_neg (by omega)]
theorem bh_rng2 {T : Nat → Nat → Int} (hT : tOK T) {n : Nat} {m : Int} (h0 : 0 ≤ m) : bhT 2 T (WT 2 T) n m = 2147483647 ∨ bhT 2 T (WT 2 T) n m ≤ 4000000 := by
  have h5 := (hT.2.2.2.2.2 n).2.2.2.1
  have hdm := dm_rng (T := T) (g := WT 2 T) (t := n) (m := m) (b := 3228800) (by omega) (fun s hs => by have ha := arT_rng hT (t := n) (s := s) (m := m) hs; exact WT2_rng hT (by omega)) 4 (by omega)
  unfold bhT
  rw [if_pos rfl]
  by_cases c : dmT T (WT 2 T) n m 4 = 2147483647
  · rw [if_pos c]; exact Or.inl rfl
  · rw [if_neg c]; right; omega
theorem bh_mc {T : Nat → Nat → Int} (hT : tOK T) {n : Nat} {m : Int} (h0 : 0 ≤ m) : mcF (bhT 2 T (WT 2 T) n m) = if mcF (dmT T (WT 2 T) n m 4) = 1000000000 then 1000000000 else mcF (dmT T (WT 2 T) n m 4) + T 5 n := by
  have h5 := (hT.2.2.2.2.2 n).2.2.2.1
  have hdm := dm_rng (T := T) (g := WT 2 T) (t := n) (m := m) (b := 3228800) (by omega) (fun s hs => by have ha := arT_rng hT (t := n) (s := s) (m := m) hs; exact WT2_rng hT (by omega)) 4 (by omega)
  have q := mcF_c (dmT T (WT 2 T) n m 4)
  have e : bhT 2 T (WT 2 T) n m = if dmT T (WT 2 T) n m 4 = 2147483647 then 2147483647 else T 5 n + dmT T (WT 2 T) n m 4 := if_pos rfl
  have q2 := mcF_c (bhT 2 T (WT 2 T) n m)
  by_cases c : dmT T (WT 2 T) n m 4 = 2147483647
  · rw [if_pos c] at e
    rw [if_pos (by omega)]; omega
  · rw [if_neg c] at e
    rw [if_neg (by omega)]; omega
/-- what the reference's rows hold of a stop and a minute after n trains -/
def CBt (h T : Nat → Nat → Int) (s m n : Nat) : Prop := h 134 (1600 * s + m) = (bsT 0 T (WT 0 T) s m n).1 ∧ h 133 (1600 * s + m) = (bsT 0 T (WT 0 T) s m n).2 ∧ h 135 (1600 * s + m) = (bsT 1 T (WT 1 T) s m n).2 ∧ h 136 (1600 * s + m) = mcF (bsT 2 T (WT 2 T) s m n).2
def O4 (h h' : Nat → Nat → Int) (q0 : Nat) : Prop := ∀ q, q ≠ q0 → h' 133 q = h 133 q ∧ h' 134 q = h 134 q ∧ h' 135 q = h 135 q ∧ h' 136 q = h 136 q
theorem bs_rng2 {T : Nat → Nat → Int} (hT : tOK T) {stop m : Int} (h0 : 0 ≤ m) (n : Nat) (hn : (n : Int) ≤ T 0 2) : (bsT 2 T (WT 2 T) stop m n).2 = 2147483647 ∨ (bsT 2 T (WT 2 T) stop m n).2 ≤ 4000000 := by
  refine bsT_P (P := fun z => z = 2147483647 ∨ z ≤ 4000000) (Or.inl rfl) (fun i hi hl => ?_)
  exact bh_rng2 hT h0

set_option maxHeartbeats 16000000 in
theorem l_mayTake {γ : GT} {d : Nat} {T : Nat → Nat → Int} {t s m : Nat} {h : Nat → Nat → Int} {τ : List AC} {Post : Option AV → List AC → Prop} (hd : 2 ≤ d) (hT : tOK T) (hRT : RT h T) (ht : (t : Int) < T 0 2) (hs2 : T 2 t = (s : Int)) (hs3 : (s : Int) < T 0 3) (hm : m < 1600) (hl : (m : Int) ≤ lsT T t) (hC : CWf h T ((m : Int) + 1)) (hB : CBt h T s m t) (kQ : ∀ h', Fr [133, 134, 135, 136] h h' → O4 h h' (1600 * s + m) → CBt h' T s m (t + 1) → Post none (mk h' τ)) :
    ∀ (f i : Nat), i ≤ 4 → 4 < i + f → Aj γ mX9_mayTake d 0 0 Post 20 [(8, vI ((i : Nat) : Int)), (4, vI (mnT T (WT 0 T) t (m : Int) i)), (5, vI (mnT T (WT 1 T) t (m : Int) i)), (6, vI (mcF (dmT T (WT 2 T) t (m : Int) i))), (7, vI (T 3 t)), (0, vA 123), (1, vI ((t : Nat) : Int)), (2, vI ((s : Nat) : Int)), (3, vI ((m : Nat) : Int))] [] (mk h τ) := by
  intro f
  induction f with
  | zero => intro i h1 h2; omega
  | succ f ih =>
    intro i h1 h2
    have h2_ := hT.2.2.1
    have h3_ := hT.2.2.2.1
    have qa := hT.2.2.2.2.2 t
    have qa3 := qa.2.1
    have qa4 := qa.2.2.1
    have qa5 := qa.2.2.2.1
    have qa6 := qa.2.2.2.2.1
    have qa7 := qa.2.2.2.2.2.1
    have qa8 := (qa.2.2.2.2.2.2.2 (by omega))
    have qaw := hT.2.2.2.2.1 (Int.toNat (T 3 t))
    have hq2 := qa.1
    have hmn0 := mn_rng hT (g := WT 0 T) (t := t) (m := (m : Int)) (b := 500000) ht (by omega) (fun s hs => by have ha := arT_rng hT (t := t) (s := s) (m := (m : Int)) hs; exact WT0_rng hT (by omega) (by omega))
    have hmn1 := mn_rng hT (g := WT 1 T) (t := t) (m := (m : Int)) (b := 10000) ht (by omega) (fun s hs => WT1_rng hT)
    have hdm := dm_rng (T := T) (g := WT 2 T) (t := t) (m := (m : Int)) (b := 3228800) (by omega) (fun s hs => by have ha := arT_rng hT (t := t) (s := s) (m := (m : Int)) hs; exact WT2_rng hT (by omega)) i (by omega)
    have hmci := mcF_c (dmT T (WT 2 T) t (m : Int) i)
    refine a_iload (j := 0) dX9_mayTake_20 rfl ?_
    refine a_iconst dX9_mayTake_22 ⟨by decide, by decide⟩ ?_
    refine a_icmp_ge (tgt := 119) dX9_mayTake_23 (by decide) (fun c23_1 => ?_) (fun c23_1 => ?_)
    · obtain rfl : i = 4 := (by omega)
      have q10 := hmn0 4 (by omega)
      have q11 := hmn1 4 (by omega)
      have hbh := bh_rng2 hT (n := t) (m := (m : Int)) (by omega)
      have hbs := bs_rng2 hT (stop := (s : Int)) (m := (m : Int)) (by omega) t (by omega)
      have hbm := bh_mc hT (n := t) (m := (m : Int)) (by omega)
      have hmcb := mcF_c (bsT 2 T (WT 2 T) (s : Int) (m : Int) t).2
      have hfr := hRT.1.2 t ht
      have hf5 := hfr.2.2.2.1
      have hf9 := hfr.2.2.2.2.1
      refine a_sipush dX9_mayTake_119 ⟨by decide, by decide, by decide⟩ ?_
      refine a_iload_n (j := 7) dX9_mayTake_122 rfl rfl ?_
      refine a_imul (z := (1600 * ((s : Nat) : Int))) dX9_mayTake_123 (w_ok (by omega) (by omega)) ?_
      refine a_iload_n (j := 8) dX9_mayTake_124 rfl rfl ?_
      refine a_iadd (z := ((1600 * ((s : Nat) : Int)) + ((m : Nat) : Int))) dX9_mayTake_125 (w_ok (by omega) (by omega)) ?_
      refine a_istore (lv' := [(8, vI ((1600 * ((s : Nat) : Int)) + ((m : Nat) : Int))), (4, vI (mnT T (WT 0 T) t (m : Int) 4)), (5, vI (mnT T (WT 1 T) t (m : Int) 4)), (6, vI (mcF (dmT T (WT 2 T) t (m : Int) 4))), (7, vI (T 3 t)), (0, vA 123), (1, vI ((t : Nat) : Int)), (2, vI ((s : Nat) : Int)), (3, vI ((m : Nat) : Int))]) dX9_mayTake_126 (by decide) rfl ?_
      refine a_iload (j := 1) dX9_mayTake_128 rfl ?_
      refine a_bipush dX9_mayTake_130 ⟨by decide, by decide, by decide⟩ ?_
      refine a_idiv (z := ((mnT T (WT 0 T) t (m : Int) 4) / 100)) dX9_mayTake_132 (by omega) (w_divN (by omega) (by omega) (by omega)) ?_
      refine a_istore (lv' := [(4, vI ((mnT T (WT 0 T) t (m : Int) 4) / 100)), (8, vI ((1600 * ((s : Nat) : Int)) + ((m : Nat) : Int))), (5, vI (mnT T (WT 1 T) t (m : Int) 4)), (6, vI (mcF (dmT T (WT 2 T) t (m : Int) 4))), (7, vI (T 3 t)), (0, vA 123), (1, vI ((t : Nat) : Int)), (2, vI ((s : Nat) : Int)), (3, vI ((m : Nat) : Int))]) dX9_mayTake_133 (by decide) rfl ?_
      refine a_iload (j := 2) dX9_mayTake_135 rfl ?_
      refine a_bipush dX9_mayTake_137 ⟨by decide, by decide, by decide⟩ ?_
      refine a_idiv (z := ((mnT T (WT 1 T) t (m : Int) 4) / 100)) dX9_mayTake_139 (by omega) (w_divN (by omega) (by omega) (by omega)) ?_
      refine a_istore (lv' := [(5, vI ((mnT T (WT 1 T) t (m : Int) 4) / 100)), (4, vI ((mnT T (WT 0 T) t (m : Int) 4) / 100)), (8, vI ((1600 * ((s : Nat) : Int)) + ((m : Nat) : Int))), (6, vI (mcF (dmT T (WT 2 T) t (m : Int) 4))), (7, vI (T 3 t)), (0, vA 123), (1, vI ((t : Nat) : Int)), (2, vI ((s : Nat) : Int)), (3, vI ((m : Nat) : Int))]) dX9_mayTake_140 (by decide) rfl ?_
      refine a_iload (j := 3) dX9_mayTake_142 rfl ?_
      refine a_ldc (z := 1000000000) dX9_mayTake_144 kwX9_202 ⟨by decide, by decide, by decide⟩ ?_
      refine a_icmp_ne (tgt := 154) dX9_mayTake_146 (by decide) (fun c146_2 => ?_) (fun c146_2 => ?_)
      · refine a_iload (j := 3) dX9_mayTake_154 rfl ?_
        refine a_aload_n (j := 5) dX9_mayTake_156 rfl rfl (Nat.le_of_ble_eq_true rfl) ?_
        refine a_iload_n (j := 6) dX9_mayTake_157 rfl rfl ?_
        refine a_iconst dX9_mayTake_158 ⟨by decide, by decide⟩ ?_
        refine b_callV (d' := d - 1) (mc' := 0) (ms' := 0) (mc1 := 0) (ms1 := 0) (st := [vI (mcF (dmT T (WT 2 T) t (m : Int) 4))]) (b := 123) [vI ((t : Nat) : Int), vI 0] dX9_mayTake_159 mwX9_of lkX9_107 (by decide) rfl rc_X9 rfl (Nat.le_of_ble_eq_true rfl) (by omega) rfl rfl (c_X9_of (v1 := (h 124 (15 + 11 * t))) (by omega)  (congrArg (h 124) (show (Int.toNat ((15 + (11 * ((t : Nat) : Int))) + 0)) = (15 + 11 * t) by omega)) (show 0 ≤ ((t : Nat) : Int) ∧ ((t : Nat) : Int) ≤ 11 ∧ 0 ≤ 0 ∧ 0 ≤ 10 by omega) ?_)
        show Aj γ mX9_mayTake d 0 0 Post 162 [(5, vI ((mnT T (WT 1 T) t (m : Int) 4) / 100)), (4, vI ((mnT T (WT 0 T) t (m : Int) 4) / 100)), (8, vI ((1600 * ((s : Nat) : Int)) + ((m : Nat) : Int))), (6, vI (mcF (dmT T (WT 2 T) t (m : Int) 4))), (7, vI (T 3 t)), (0, vA 123), (1, vI ((t : Nat) : Int)), (2, vI ((s : Nat) : Int)), (3, vI ((m : Nat) : Int))] [vI (h 124 (15 + 11 * t)), vI (mcF (dmT T (WT 2 T) t (m : Int) 4))] (mk h τ)
        refine a_aload_n (j := 5) dX9_mayTake_162 rfl rfl (Nat.le_of_ble_eq_true rfl) ?_
        refine a_iload_n (j := 6) dX9_mayTake_163 rfl rfl ?_
        refine a_iconst dX9_mayTake_164 ⟨by decide, by decide⟩ ?_
        refine b_callV (d' := d - 1) (mc' := 0) (ms' := 0) (mc1 := 0) (ms1 := 0) (st := [vI (h 124 (15 + 11 * t)), vI (mcF (dmT T (WT 2 T) t (m : Int) 4))]) (b := 123) [vI ((t : Nat) : Int), vI 5] dX9_mayTake_165 mwX9_of lkX9_107 (by decide) rfl rc_X9 rfl (Nat.le_of_ble_eq_true rfl) (by omega) rfl rfl (c_X9_of (v1 := (h 124 (20 + 11 * t))) (by omega)  (congrArg (h 124) (show (Int.toNat ((15 + (11 * ((t : Nat) : Int))) + 5)) = (20 + 11 * t) by omega)) (show 0 ≤ ((t : Nat) : Int) ∧ ((t : Nat) : Int) ≤ 11 ∧ 0 ≤ 5 ∧ 5 ≤ 10 by omega) ?_)
        show Aj γ mX9_mayTake d 0 0 Post 168 [(5, vI ((mnT T (WT 1 T) t (m : Int) 4) / 100)), (4, vI ((mnT T (WT 0 T) t (m : Int) 4) / 100)), (8, vI ((1600 * ((s : Nat) : Int)) + ((m : Nat) : Int))), (6, vI (mcF (dmT T (WT 2 T) t (m : Int) 4))), (7, vI (T 3 t)), (0, vA 123), (1, vI ((t : Nat) : Int)), (2, vI ((s : Nat) : Int)), (3, vI ((m : Nat) : Int))] [vI (h 124 (20 + 11 * t)), vI (h 124 (15 + 11 * t)), vI (mcF (dmT T (WT 2 T) t (m : Int) 4))] (mk h τ)
        refine a_callS (d' := d - 1) (mc' := 0) (ms' := 0) (mc1 := 0) (ms1 := 0) (st := [vI (mcF (dmT T (WT 2 T) t (m : Int) 4))]) [vI (h 124 (15 + 11 * t)), vI (h 124 (20 + 11 * t))] dX9_mayTake_168 mwX9_fareBy lkX9_164 rfl (Nat.le_of_ble_eq_true rfl) (by omega) rfl rfl (c_X9_fareBy  (by omega)   (show 0 ≤ (h 124 (20 + 11 * t)) ∧ (h 124 (20 + 11 * t)) ≤ 999 by omega) ?_)
        show Aj γ mX9_mayTake d 0 0 Post 171 [(5, vI ((mnT T (WT 1 T) t (m : Int) 4) / 100)), (4, vI ((mnT T (WT 0 T) t (m : Int) 4) / 100)), (8, vI ((1600 * ((s : Nat) : Int)) + ((m : Nat) : Int))), (6, vI (mcF (dmT T (WT 2 T) t (m : Int) 4))), (7, vI (T 3 t)), (0, vA 123), (1, vI ((t : Nat) : Int)), (2, vI ((s : Nat) : Int)), (3, vI ((m : Nat) : Int))] [vI (farF (h 124 (15 + 11 * t)) (h 124 (20 + 11 * t))), vI (mcF (dmT T (WT 2 T) t (m : Int) 4))] (mk h τ)
        refine a_iadd (z := ((mcF (dmT T (WT 2 T) t (m : Int) 4)) + (farF (h 124 (15 + 11 * t)) (h 124 (20 + 11 * t))))) dX9_mayTake_171 (w_ok (by omega) (by omega)) ?_
        have hmc : mcF (bhT 2 T (WT 2 T) t (m : Int)) = ((mcF (dmT T (WT 2 T) t (m : Int) 4)) + (farF (h 124 (15 + 11 * t)) (h 124 (20 + 11 * t)))) := by
          rw [hbm]; first | (rw [if_pos (by omega)]; done) | (rw [if_neg (by omega)]; omega)
        refine a_istore (lv' := [(6, vI ((mcF (dmT T (WT 2 T) t (m : Int) 4)) + (farF (h 124 (15 + 11 * t)) (h 124 (20 + 11 * t))))), (5, vI ((mnT T (WT 1 T) t (m : Int) 4) / 100)), (4, vI ((mnT T (WT 0 T) t (m : Int) 4) / 100)), (8, vI ((1600 * ((s : Nat) : Int)) + ((m : Nat) : Int))), (7, vI (T 3 t)), (0, vA 123), (1, vI ((t : Nat) : Int)), (2, vI ((s : Nat) : Int)), (3, vI ((m : Nat) : Int))]) dX9_mayTake_172 (by decide) rfl ?_
        refine a_aload_n (j := 5) dX9_mayTake_174 rfl rfl (Nat.le_of_ble_eq_true rfl) ?_
        refine b_getp (a := 123) (p := 134) dX9_mayTake_175 fwX9_41 (by decide) rfl (by decide) rfl rfl ?_
        refine a_iload (j := 3) dX9_mayTake_178 rfl ?_
        refine b_iaload (a := 134) (z := (bsT 0 T (WT 0 T) s m t).1) (1600 * s + m) dX9_mayTake_180 (by decide) rfl (by omega) (by omega) (sp_nil rfl _) hB.1 (fun r180_3 => ?_)
        refine a_if_lt (tgt := 196) dX9_mayTake_181 (by decide) (fun c181_4 => ?_) (fun c181_4 => ?_)
        · refine a_aload_n (j := 5) dX9_mayTake_196 rfl rfl (Nat.le_of_ble_eq_true rfl) ?_
          refine b_getp (a := 123) (p := 134) dX9_mayTake_197 fwX9_41 (by decide) rfl (by decide) rfl rfl ?_
          refine a_iload (j := 3) dX9_mayTake_200 rfl ?_
          refine a_iload_n (j := 6) dX9_mayTake_202 rfl rfl ?_
          refine b_iastore (a := 134) (1600 * s + m) dX9_mayTake_203 (by decide) rfl (by omega) (by omega) (sp_nil rfl _) ?_
          refine a_aload_n (j := 5) dX9_mayTake_204 rfl rfl (Nat.le_of_ble_eq_true rfl) ?_
          refine b_getp (a := 123) (p := 133) dX9_mayTake_205 fwX9_38 (by decide) rfl (by decide) rfl rfl ?_
          refine a_iload (j := 3) dX9_mayTake_208 rfl ?_
          refine a_iload (j := 2) dX9_mayTake_210 rfl ?_
          refine b_iastore (a := 133) (1600 * s + m) dX9_mayTake_212 (by decide) rfl (by omega) (by omega) (sp_nil rfl _) ?_
          refine a_aload_n (j := 5) dX9_mayTake_213 rfl rfl (Nat.le_of_ble_eq_true rfl) ?_
          refine b_getp (a := 123) (p := 135) dX9_mayTake_214 fwX9_44 (by decide) rfl (by decide) rfl rfl ?_
          refine a_iload (j := 3) dX9_mayTake_217 rfl ?_
          refine a_iload (j := 1) dX9_mayTake_219 rfl ?_
          refine a_aload_n (j := 5) dX9_mayTake_221 rfl rfl (Nat.le_of_ble_eq_true rfl) ?_
          refine b_getp (a := 123) (p := 135) dX9_mayTake_222 fwX9_44 (by decide) rfl (by decide) rfl rfl ?_
          refine a_iload (j := 3) dX9_mayTake_225 rfl ?_
          refine b_iaload (a := 135) (z := (bsT 1 T (WT 1 T) s m t).2) (1600 * s + m) dX9_mayTake_227 (by decide) rfl (by omega) (by omega) (sp_nil rfl _) ((up2_ne (by omega)).trans ((up2_ne (by omega)).trans hB.2.2.1)) (fun r227_5 => ?_)
          refine a_icmp_le (tgt := 236) dX9_mayTake_228 (by decide) (fun c228_6 => ?_) (fun c228_6 => ?_)
          · refine a_aload_n (j := 5) dX9_mayTake_236 rfl rfl (Nat.le_of_ble_eq_true rfl) ?_
            refine b_getp (a := 123) (p := 135) dX9_mayTake_237 fwX9_44 (by decide) rfl (by decide) rfl rfl ?_
            refine a_iload (j := 3) dX9_mayTake_240 rfl ?_
            refine b_iaload (a := 135) (z := (bsT 1 T (WT 1 T) s m t).2) (1600 * s + m) dX9_mayTake_242 (by decide) rfl (by omega) (by omega) (sp_nil rfl _) ((up2_ne (by omega)).trans ((up2_ne (by omega)).trans hB.2.2.1)) (fun r242_7 => ?_)
            refine b_iastore (a := 135) (1600 * s + m) dX9_mayTake_243 (by decide) rfl (by omega) (by omega) (sp_nil rfl _) ?_
            refine a_aload_n (j := 5) dX9_mayTake_244 rfl rfl (Nat.le_of_ble_eq_true rfl) ?_
            refine b_getp (a := 123) (p := 136) dX9_mayTake_245 fwX9_47 (by decide) rfl (by decide) rfl rfl ?_
            refine a_iload (j := 3) dX9_mayTake_248 rfl ?_
            refine a_iload (j := 0) dX9_mayTake_250 rfl ?_
            refine a_aload_n (j := 5) dX9_mayTake_252 rfl rfl (Nat.le_of_ble_eq_true rfl) ?_
            refine b_getp (a := 123) (p := 136) dX9_mayTake_253 fwX9_47 (by decide) rfl (by decide) rfl rfl ?_
            refine a_iload (j := 3) dX9_mayTake_256 rfl ?_
            refine b_iaload (a := 136) (z := (mcF (bsT 2 T (WT 2 T) s m t).2)) (1600 * s + m) dX9_mayTake_258 (by decide) rfl (by omega) (by omega) (sp_nil rfl _) ((up2_ne (by omega)).trans ((up2_ne (by omega)).trans ((up2_ne (by omega)).trans hB.2.2.2))) (fun r258_8 => ?_)
            refine a_icmp_ge (tgt := 267) dX9_mayTake_259 (by decide) (fun c259_9 => ?_) (fun c259_9 => ?_)
            · refine a_aload_n (j := 5) dX9_mayTake_267 rfl rfl (Nat.le_of_ble_eq_true rfl) ?_
              refine b_getp (a := 123) (p := 136) dX9_mayTake_268 fwX9_47 (by decide) rfl (by decide) rfl rfl ?_
              refine a_iload (j := 3) dX9_mayTake_271 rfl ?_
              refine b_iaload (a := 136) (z := (mcF (bsT 2 T (WT 2 T) s m t).2)) (1600 * s + m) dX9_mayTake_273 (by decide) rfl (by omega) (by omega) (sp_nil rfl _) ((up2_ne (by omega)).trans ((up2_ne (by omega)).trans ((up2_ne (by omega)).trans hB.2.2.2))) (fun r273_10 => ?_)
              refine b_iastore (a := 136) (1600 * s + m) dX9_mayTake_274 (by decide) rfl (by omega) (by omega) (sp_nil rfl _) ?_
              exact a_vret dX9_mayTake_275 rfl (kQ _ (Fr_u (by decide) (Fr_u (by decide) (Fr_u (by decide) (Fr_u (by decide) Fr_r)))) (fun q hq => ⟨by rw [up2_ne (by omega), up2_ne (by omega), up2_ne (by omega), up2_ne (by omega)], by rw [up2_ne (by omega), up2_ne (by omega), up2_ne (by omega), up2_ne (by omega)], by rw [up2_ne (by omega), up2_ne (by omega), up2_ne (by omega), up2_ne (by omega)], by rw [up2_ne (by omega), up2_ne (by omega), up2_ne (by omega), up2_ne (by omega)]⟩) ⟨((up2_ne (by omega)).trans ((up2_ne (by omega)).trans ((up2_ne (by omega)).trans up2_at))).trans (by rw [bs0 hs2 hl]; first | (rw [if_pos (by omega)]; done) | (rw [if_neg (by omega)]; done) | (exfalso; omega)), ((up2_ne (by omega)).trans ((up2_ne (by omega)).trans up2_at)).trans (by rw [bs0 hs2 hl]; first | (rw [if_pos (by omega)]; done) | (rw [if_neg (by omega)]; done) | (exfalso; omega)), ((up2_ne (by omega)).trans up2_at).trans (by rw [bs1 hs2 hl (by omega)]; first | (rw [if_pos (by omega)]; done) | (rw [if_neg (by omega)]; done) | (exfalso; omega)), up2_at.trans (by rw [bs2 hs2 hl hbh hbs hmc]; first | (rw [if_pos (by omega)]; done) | (rw [if_neg (by omega)]; done) | (exfalso; omega))⟩)
            · refine a_iload (j := 0) dX9_mayTake_262 rfl ?_
              refine a_goto (tgt := 274) dX9_mayTake_264 (by decide) ?_
              refine b_iastore (a := 136) (1600 * s + m) dX9_mayTake_274 (by decide) rfl (by omega) (by omega) (sp_nil rfl _) ?_
              exact a_vret dX9_mayTake_275 rfl (kQ _ (Fr_u (by decide) (Fr_u (by decide) (Fr_u (by decide) (Fr_u (by decide) Fr_r)))) (fun q hq => ⟨by rw [up2_ne (by omega), up2_ne (by omega), up2_ne (by omega), up2_ne (by omega)], by rw [up2_ne (by omega), up2_ne (by omega), up2_ne (by omega), up2_ne (by omega)], by rw [up2_ne (by omega), up2_ne (by omega), up2_ne (by omega), up2_ne (by omega)], by rw [up2_ne (by omega), up2_ne (by omega), up2_ne (by omega), up2_ne (by omega)]⟩) ⟨((up2_ne (by omega)).trans ((up2_ne (by omega)).trans ((up2_ne (by omega)).trans up2_at))).trans (by rw [bs0 hs2 hl]; first | (rw [if_pos (by omega)]; done) | (rw [if_neg (by omega)]; done) | (exfalso; omega)), ((up2_ne (by omega)).trans ((up2_ne (by omega)).trans up2_at)).trans (by rw [bs0 hs2 hl]; first | (rw [if_pos (by omega)]; done) | (rw [if_neg (by omega)]; done) | (exfalso; omega)), ((up2_ne (by omega)).trans up2_at).trans (by rw [bs1 hs2 hl (by omega)]; first | (rw [if_pos (by omega)]; done) | (rw [if_neg (by omega)]; done) | (exfalso; omega)), up2_at.trans (by rw [bs2 hs2 hl hbh hbs hmc]; first | (rw [if_pos (by omega)]; done) | (rw [if_neg (by omega)]; done) | (exfalso; omega))⟩)
          · refine a_iload (j := 1) dX9_mayTake_231 rfl ?_
            refine a_goto (tgt := 243) dX9_mayTake_233 (by decide) ?_
            refine b_iastore (a := 135) (1600 * s + m) dX9_mayTake_243 (by decide) rfl (by omega) (by omega) (sp_nil rfl _) ?_
            refine a_aload_n (j := 5) dX9_mayTake_244 rfl rfl (Nat.le_of_ble_eq_true rfl) ?_
            refine b_getp (a := 123) (p := 136) dX9_mayTake_245 fwX9_47 (by decide) rfl (by decide) rfl rfl ?_
            refine a_iload (j := 3) dX9_mayTake_248 rfl ?_
            refine a_iload (j := 0) dX9_mayTake_250 rfl ?_
            refine a_aload_n (j := 5) dX9_mayTake_252 rfl rfl (Nat.le_of_ble_eq_true rfl) ?_
            refine b_getp (a := 123) (p := 136) dX9_mayTake_253 fwX9_47 (by decide) rfl (by decide) rfl rfl ?_
            refine a_iload (j := 3) dX9_mayTake_256 rfl ?_
            refine b_iaload (a := 136) (z := (mcF (bsT 2 T (WT 2 T) s m t).2)) (1600 * s + m) dX9_mayTake_258 (by decide) rfl (by omega) (by omega) (sp_nil rfl _) ((up2_ne (by omega)).trans ((up2_ne (by omega)).trans ((up2_ne (by omega)).trans hB.2.2.2))) (fun r258_11 => ?_)
            refine a_icmp_ge (tgt := 267) dX9_mayTake_259 (by decide) (fun c259_12 => ?_) (fun c259_12 => ?_)
            · refine a_aload_n (j := 5) dX9_mayTake_267 rfl rfl (Nat.le_of_ble_eq_true rfl) ?_
              refine b_getp (a := 123) (p := 136) dX9_mayTake_268 fwX9_47 (by decide) rfl (by decide) rfl rfl ?_
              refine a_iload (j := 3) dX9_mayTake_271 rfl ?_
              refine b_iaload (a := 136) (z := (mcF (bsT 2 T (WT 2 T) s m t).2)) (1600 * s + m) dX9_mayTake_273 (by decide) rfl (by omega) (by omega) (sp_nil rfl _) ((up2_ne (by omega)).trans ((up2_ne (by omega)).trans ((up2_ne (by omega)).trans hB.2.2.2))) (fun r273_13 => ?_)
              refine b_iastore (a := 136) (1600 * s + m) dX9_mayTake_274 (by decide) rfl (by omega) (by omega) (sp_nil rfl _) ?_
              exact a_vret dX9_mayTake_275 rfl (kQ _ (Fr_u (by decide) (Fr_u (by decide) (Fr_u (by decide) (Fr_u (by decide) Fr_r)))) (fun q hq => ⟨by rw [up2_ne (by omega), up2_ne (by omega), up2_ne (by omega), up2_ne (by omega)], by rw [up2_ne (by omega), up2_ne (by omega), up2_ne (by omega), up2_ne (by omega)], by rw [up2_ne (by omega), up2_ne (by omega), up2_ne (by omega), up2_ne (by omega)], by rw [up2_ne (by omega), up2_ne (by omega), up2_ne (by omega), up2_ne (by omega)]⟩) ⟨((up2_ne (by omega)).trans ((up2_ne (by omega)).trans ((up2_ne (by omega)).trans up2_at))).trans (by rw [bs0 hs2 hl]; first | (rw [if_pos (by omega)]; done) | (rw [if_neg (by omega)]; done) | (exfalso; omega)), ((up2_ne (by omega)).trans ((up2_ne (by omega)).trans up2_at)).trans (by rw [bs0 hs2 hl]; first | (rw [if_pos (by omega)]; done) | (rw [if_neg (by omega)]; done) | (exfalso; omega)), ((up2_ne (by omega)).trans up2_at).trans (by rw [bs1 hs2 hl (by omega)]; first | (rw [if_pos (by omega)]; done) | (rw [if_neg (by omega)]; done) | (exfalso; omega)), up2_at.trans (by rw [bs2 hs2 hl hbh hbs hmc]; first | (rw [if_pos (by omega)]; done) | (rw [if_neg (by omega)]; done) | (exfalso; omega))⟩)
            · refine a_iload (j := 0) dX9_mayTake_262 rfl ?_
              refine a_goto (tgt := 274) dX9_mayTake_264 (by decide) ?_
              refine b_iastore (a := 136) (1600 * s + m) dX9_mayTake_274 (by decide) rfl (by omega) (by omega) (sp_nil rfl _) ?_
              exact a_vret dX9_mayTake_275 rfl (kQ _ (Fr_u (by decide) (Fr_u (by decide) (Fr_u (by decide) (Fr_u (by decide) Fr_r)))) (fun q hq => ⟨by rw [up2_ne (by omega), up2_ne (by omega), up2_ne (by omega), up2_ne (by omega)], by rw [up2_ne (by omega), up2_ne (by omega), up2_ne (by omega), up2_ne (by omega)], by rw [up2_ne (by omega), up2_ne (by omega), up2_ne (by omega), up2_ne (by omega)], by rw [up2_ne (by omega), up2_ne (by omega), up2_ne (by omega), up2_ne (by omega)]⟩) ⟨((up2_ne (by omega)).trans ((up2_ne (by omega)).trans ((up2_ne (by omega)).trans up2_at))).trans (by rw [bs0 hs2 hl]; first | (rw [if_pos (by omega)]; done) | (rw [if_neg (by omega)]; done) | (exfalso; omega)), ((up2_ne (by omega)).trans ((up2_ne (by omega)).trans up2_at)).trans (by rw [bs0 hs2 hl]; first | (rw [if_pos (by omega)]; done) | (rw [if_neg (by omega)]; done) | (exfalso; omega)), ((up2_ne (by omega)).trans up2_at).trans (by rw [bs1 hs2 hl (by omega)]; first | (rw [if_pos (by omega)]; done) | (rw [if_neg (by omega)]; done) | (exfalso; omega)), up2_at.trans (by rw [bs2 hs2 hl hbh hbs hmc]; first | (rw [if_pos (by omega)]; done) | (rw [if_neg (by omega)]; done) | (exfalso; omega))⟩)
        · refine a_iload (j := 2) dX9_mayTake_184 rfl ?_
          refine a_aload_n (j := 5) dX9_mayTake_186 rfl rfl (Nat.le_of_ble_eq_true rfl) ?_
          refine b_getp (a := 123) (p := 133) dX9_mayTake_187 fwX9_38 (by decide) rfl (by decide) rfl rfl ?_
          refine a_iload (j := 3) dX9_mayTake_190 rfl ?_
          refine b_iaload (a := 133) (z := (bsT 0 T (WT 0 T) s m t).2) (1600 * s + m) dX9_mayTake_192 (by decide) rfl (by omega) (by omega) (sp_nil rfl _) hB.2.1 (fun r192_14 => ?_)
          refine a_icmp_ge (tgt := 213) dX9_mayTake_193 (by decide) (fun c193_15 => ?_) (fun c193_15 => ?_)
          · refine a_aload_n (j := 5) dX9_mayTake_213 rfl rfl (Nat.le_of_ble_eq_true rfl) ?_
            refine b_getp (a := 123) (p := 135) dX9_mayTake_214 fwX9_44 (by decide) rfl (by decide) rfl rfl ?_
            refine a_iload (j := 3) dX9_mayTake_217 rfl ?_
            refine a_iload (j := 1) dX9_mayTake_219 rfl ?_
            refine a_aload_n (j := 5) dX9_mayTake_221 rfl rfl (Nat.le_of_ble_eq_true rfl) ?_
            refine b_getp (a := 123) (p := 135) dX9_mayTake_222 fwX9_44 (by decide) rfl (by decide) rfl rfl ?_
            refine a_iload (j := 3) dX9_mayTake_225 rfl ?_
            refine b_iaload (a := 135) (z := (bsT 1 T (WT 1 T) s m t).2) (1600 * s + m) dX9_mayTake_227 (by decide) rfl (by omega) (by omega) (sp_nil rfl _) hB.2.2.1 (fun r227_16 => ?_)
            refine a_icmp_le (tgt := 236) dX9_mayTake_228 (by decide) (fun c228_17 => ?_) (fun c228_17 => ?_)
            · refine a_aload_n (j := 5) dX9_mayTake_236 rfl rfl (Nat.le_of_ble_eq_true rfl) ?_
              refine b_getp (a := 123) (p := 135) dX9_mayTake_237 fwX9_44 (by decide) rfl (by decide) rfl rfl ?_
              refine a_iload (j := 3) dX9_mayTake_240 rfl ?_
              refine b_iaload (a := 135) (z := (bsT 1 T (WT 1 T) s m t).2) (1600 * s + m) dX9_mayTake_242 (by decide) rfl (by omega) (by omega) (sp_nil rfl _) hB.2.2.1 (fun r242_18 => ?_)
              refine b_iastore (a := 135) (1600 * s + m) dX9_mayTake_243 (by decide) rfl (by omega) (by omega) (sp_nil rfl _) ?_
              refine a_aload_n (j := 5) dX9_mayTake_244 rfl rfl (Nat.le_of_ble_eq_true rfl) ?_
              refine b_getp (a := 123) (p := 136) dX9_mayTake_245 fwX9_47 (by decide) rfl (by decide) rfl rfl ?_
              refine a_iload (j := 3) dX9_mayTake_248 rfl ?_
              refine a_iload (j := 0) dX9_mayTake_250 rfl ?_
              refine a_aload_n (j := 5) dX9_mayTake_252 rfl rfl (Nat.le_of_ble_eq_true rfl) ?_
              refine b_getp (a := 123) (p := 136) dX9_mayTake_253 fwX9_47 (by decide) rfl (by decide) rfl rfl ?_
              refine a_iload (j := 3) dX9_mayTake_256 rfl ?_
              refine b_iaload (a := 136) (z := (mcF (bsT 2 T (WT 2 T) s m t).2)) (1600 * s + m) dX9_mayTake_258 (by decide) rfl (by omega) (by omega) (sp_nil rfl _) ((up2_ne (by omega)).trans hB.2.2.2) (fun r258_19 => ?_)
              refine a_icmp_ge (tgt := 267) dX9_mayTake_259 (by decide) (fun c259_20 => ?_) (fun c259_20 => ?_)
              · refine a_aload_n (j := 5) dX9_mayTake_267 rfl rfl (Nat.le_of_ble_eq_true rfl) ?_
                refine b_getp (a := 123) (p := 136) dX9_mayTake_268 fwX9_47 (by decide) rfl (by decide) rfl rfl ?_
                refine a_iload (j := 3) dX9_mayTake_271 rfl ?_
                refine b_iaload (a := 136) (z := (mcF (bsT 2 T (WT 2 T) s m t).2)) (1600 * s + m) dX9_mayTake_273 (by decide) rfl (by omega) (by omega) (sp_nil rfl _) ((up2_ne (by omega)).trans hB.2.2.2) (fun r273_21 => ?_)
                refine b_iastore (a := 136) (1600 * s + m) dX9_mayTake_274 (by decide) rfl (by omega) (by omega) (sp_nil rfl _) ?_
                exact a_vret dX9_mayTake_275 rfl (kQ _ (Fr_u (by decide) (Fr_u (by decide) Fr_r)) (fun q hq => ⟨by rw [up2_ne (by omega), up2_ne (by omega)], by rw [up2_ne (by omega), up2_ne (by omega)], by rw [up2_ne (by omega), up2_ne (by omega)], by rw [up2_ne (by omega), up2_ne (by omega)]⟩) ⟨((up2_ne (by omega)).trans ((up2_ne (by omega)).trans hB.1)).trans (by rw [bs0 hs2 hl]; first | (rw [if_pos (by omega)]; done) | (rw [if_neg (by omega)]; done) | (exfalso; omega)), ((up2_ne (by omega)).trans ((up2_ne (by omega)).trans hB.2.1)).trans (by rw [bs0 hs2 hl]; first | (rw [if_pos (by omega)]; done) | (rw [if_neg (by omega)]; done) | (exfalso; omega)), ((up2_ne (by omega)).trans up2_at).trans (by rw [bs1 hs2 hl (by omega)]; first | (rw [if_pos (by omega)]; done) | (rw [if_neg (by omega)]; done) | (exfalso; omega)), up2_at.trans (by rw [bs2 hs2 hl hbh hbs hmc]; first | (rw [if_pos (by omega)]; done) | (rw [if_neg (by omega)]; done) | (exfalso; omega))⟩)
              · refine a_iload (j := 0) dX9_mayTake_262 rfl ?_
                refine a_goto (tgt := 274) dX9_mayTake_264 (by decide) ?_
                refine b_iastore (a := 136) (1600 * s + m) dX9_mayTake_274 (by decide) rfl (by omega) (by omega) (sp_nil rfl _) ?_
                exact a_vret dX9_mayTake_275 rfl (kQ _ (Fr_u (by decide) (Fr_u (by decide) Fr_r)) (fun q hq => ⟨by rw [up2_ne (by omega), up2_ne (by omega)], by rw [up2_ne (by omega), up2_ne (by omega)], by rw [up2_ne (by omega), up2_ne (by omega)], by rw [up2_ne (by omega), up2_ne (by omega)]⟩) ⟨((up2_ne (by omega)).trans ((up2_ne (by omega)).trans hB.1)).trans (by rw [bs0 hs2 hl]; first | (rw [if_pos (by omega)]; done) | (rw [if_neg (by omega)]; done) | (exfalso; omega)), ((up2_ne (by omega)).trans ((up2_ne (by omega)).trans hB.2.1)).trans (by rw [bs0 hs2 hl]; first | (rw [if_pos (by omega)]; done) | (rw [if_neg (by omega)]; done) | (exfalso; omega)), ((up2_ne (by omega)).trans up2_at).trans (by rw [bs1 hs2 hl (by omega)]; first | (rw [if_pos (by omega)]; done) | (rw [if_neg (by omega)]; done) | (exfalso; omega)), up2_at.trans (by rw [bs2 hs2 hl hbh hbs hmc]; first | (rw [if_pos (by omega)]; done) | (rw [if_neg (by omega)]; done) | (exfalso; omega))⟩)
            · refine a_iload (j := 1) dX9_mayTake_231 rfl ?_
              refine a_goto (tgt := 243) dX9_mayTake_233 (by decide) ?_
              refine b_iastore (a := 135) (1600 * s + m) dX9_mayTake_243 (by decide) rfl (by omega) (by omega) (sp_nil rfl _) ?_
              refine a_aload_n (j := 5) dX9_mayTake_244 rfl rfl (Nat.le_of_ble_eq_true rfl) ?_
              refine b_getp (a := 123) (p := 136) dX9_mayTake_245 fwX9_47 (by decide) rfl (by decide) rfl rfl ?_
              refine a_iload (j := 3) dX9_mayTake_248 rfl ?_
              refine a_iload (j := 0) dX9_mayTake_250 rfl ?_
              refine a_aload_n (j := 5) dX9_mayTake_252 rfl rfl (Nat.le_of_ble_eq_true rfl) ?_
              refine b_getp (a := 123) (p := 136) dX9_mayTake_253 fwX9_47 (by decide) rfl (by decide) rfl rfl ?_
              refine a_iload (j := 3) dX9_mayTake_256 rfl ?_
              refine b_iaload (a := 136) (z := (mcF (bsT 2 T (WT 2 T) s m t).2)) (1600 * s + m) dX9_mayTake_258 (by decide) rfl (by omega) (by omega) (sp_nil rfl _) ((up2_ne (by omega)).trans hB.2.2.2) (fun r258_22 => ?_)
              refine a_icmp_ge (tgt := 267) dX9_mayTake_259 (by decide) (fun c259_23 => ?_) (fun c259_23 => ?_)
              · refine a_aload_n (j := 5) dX9_mayTake_267 rfl rfl (Nat.le_of_ble_eq_true rfl) ?_
                refine b_getp (a := 123) (p := 136) dX9_mayTake_268 fwX9_47 (by decide) rfl (by decide) rfl rfl ?_
                refine a_iload (j := 3) dX9_mayTake_271 rfl ?_
                refine b_iaload (a := 136) (z := (mcF (bsT 2 T (WT 2 T) s m t).2)) (1600 * s + m) dX9_mayTake_273 (by decide) rfl (by omega) (by omega) (sp_nil rfl _) ((up2_ne (by omega)).trans hB.2.2.2) (fun r273_24 => ?_)
                refine b_iastore (a := 136) (1600 * s + m) dX9_mayTake_274 (by decide) rfl (by omega) (by omega) (sp_nil rfl _) ?_
                exact a_vret dX9_mayTake_275 rfl (kQ _ (Fr_u (by decide) (Fr_u (by decide) Fr_r)) (fun q hq => ⟨by rw [up2_ne (by omega), up2_ne (by omega)], by rw [up2_ne (by omega), up2_ne (by omega)], by rw [up2_ne (by omega), up2_ne (by omega)], by rw [up2_ne (by omega), up2_ne (by omega)]⟩) ⟨((up2_ne (by omega)).trans ((up2_ne (by omega)).trans hB.1)).trans (by rw [bs0 hs2 hl]; first | (rw [if_pos (by omega)]; done) | (rw [if_neg (by omega)]; done) | (exfalso; omega)), ((up2_ne (by omega)).trans ((up2_ne (by omega)).trans hB.2.1)).trans (by rw [bs0 hs2 hl]; first | (rw [if_pos (by omega)]; done) | (rw [if_neg (by omega)]; done) | (exfalso; omega)), ((up2_ne (by omega)).trans up2_at).trans (by rw [bs1 hs2 hl (by omega)]; first | (rw [if_pos (by omega)]; done) | (rw [if_neg (by omega)]; done) | (exfalso; omega)), up2_at.trans (by rw [bs2 hs2 hl hbh hbs hmc]; first | (rw [if_pos (by omega)]; done) | (rw [if_neg (by omega)]; done) | (exfalso; omega))⟩)
              · refine a_iload (j := 0) dX9_mayTake_262 rfl ?_
                refine a_goto (tgt := 274) dX9_mayTake_264 (by decide) ?_
                refine b_iastore (a := 136) (1600 * s + m) dX9_mayTake_274 (by decide) rfl (by omega) (by omega) (sp_nil rfl _) ?_
                exact a_vret dX9_mayTake_275 rfl (kQ _ (Fr_u (by decide) (Fr_u (by decide) Fr_r)) (fun q hq => ⟨by rw [up2_ne (by omega), up2_ne (by omega)], by rw [up2_ne (by omega), up2_ne (by omega)], by rw [up2_ne (by omega), up2_ne (by omega)], by rw [up2_ne (by omega), up2_ne (by omega)]⟩) ⟨((up2_ne (by omega)).trans ((up2_ne (by omega)).trans hB.1)).trans (by rw [bs0 hs2 hl]; first | (rw [if_pos (by omega)]; done) | (rw [if_neg (by omega)]; done) | (exfalso; omega)), ((up2_ne (by omega)).trans ((up2_ne (by omega)).trans hB.2.1)).trans (by rw [bs0 hs2 hl]; first | (rw [if_pos (by omega)]; done) | (rw [if_neg (by omega)]; done) | (exfalso; omega)), ((up2_ne (by omega)).trans up2_at).trans (by rw [bs1 hs2 hl (by omega)]; first | (rw [if_pos (by omega)]; done) | (rw [if_neg (by omega)]; done) | (exfalso; omega)), up2_at.trans (by rw [bs2 hs2 hl hbh hbs hmc]; first | (rw [if_pos (by omega)]; done) | (rw [if_neg (by omega)]; done) | (exfalso; omega))⟩)
          · refine a_aload_n (j := 5) dX9_mayTake_196 rfl rfl (Nat.le_of_ble_eq_true rfl) ?_
            refine b_getp (a := 123) (p := 134) dX9_mayTake_197 fwX9_41 (by decide) rfl (by decide) rfl rfl ?_
            refine a_iload (j := 3) dX9_mayTake_200 rfl ?_
            refine a_iload_n (j := 6) dX9_mayTake_202 rfl rfl ?_
            refine b_iastore (a := 134) (1600 * s + m) dX9_mayTake_203 (by decide) rfl (by omega) (by omega) (sp_nil rfl _) ?_
            refine a_aload_n (j := 5) dX9_mayTake_204 rfl rfl (Nat.le_of_ble_eq_true rfl) ?_
            refine b_getp (a := 123) (p := 133) dX9_mayTake_205 fwX9_38 (by decide) rfl (by decide) rfl rfl ?_
            refine a_iload (j := 3) dX9_mayTake_208 rfl ?_
            refine a_iload (j := 2) dX9_mayTake_210 rfl ?_
            refine b_iastore (a := 133) (1600 * s + m) dX9_mayTake_212 (by decide) rfl (by omega) (by omega) (sp_nil rfl _) ?_
            refine a_aload_n (j := 5) dX9_mayTake_213 rfl rfl (Nat.le_of_ble_eq_true rfl) ?_
            refine b_getp (a := 123) (p := 135) dX9_mayTake_214 fwX9_44 (by decide) rfl (by decide) rfl rfl ?_
            refine a_iload (j := 3) dX9_mayTake_217 rfl ?_
            refine a_iload (j := 1) dX9_mayTake_219 rfl ?_
            refine a_aload_n (j := 5) dX9_mayTake_221 rfl rfl (Nat.le_of_ble_eq_true rfl) ?_
            refine b_getp (a := 123) (p := 135) dX9_mayTake_222 fwX9_44 (by decide) rfl (by decide) rfl rfl ?_
            refine a_iload (j := 3) dX9_mayTake_225 rfl ?_
            refine b_iaload (a := 135) (z := (bsT 1 T (WT 1 T) s m t).2) (1600 * s + m) dX9_mayTake_227 (by decide) rfl (by omega) (by omega) (sp_nil rfl _) ((up2_ne (by omega)).trans ((up2_ne (by omega)).trans hB.2.2.1)) (fun r227_25 => ?_)
            refine a_icmp_le (tgt := 236) dX9_mayTake_228 (by decide) (fun c228_26 => ?_) (fun c228_26 => ?_)
            · refine a_aload_n (j := 5) dX9_mayTake_236 rfl rfl (Nat.le_of_ble_eq_true rfl) ?_
              refine b_getp (a := 123) (p := 135) dX9_mayTake_237 fwX9_44 (by decide) rfl (by decide) rfl rfl ?_
              refine a_iload (j := 3) dX9_mayTake_240 rfl ?_
              refine b_iaload (a := 135) (z := (bsT 1 T (WT 1 T) s m t).2) (1600 * s + m) dX9_mayTake_242 (by decide) rfl (by omega) (by omega) (sp_nil rfl _) ((up2_ne (by omega)).trans ((up2_ne (by omega)).trans hB.2.2.1)) (fun r242_27 => ?_)
              refine b_iastore (a := 135) (1600 * s + m) dX9_mayTake_243 (by decide) rfl (by omega) (by omega) (sp_nil rfl _) ?_
              refine a_aload_n (j := 5) dX9_mayTake_244 rfl rfl (Nat.le_of_ble_eq_true rfl) ?_
              refine b_getp (a := 123) (p := 136) dX9_mayTake_245 fwX9_47 (by decide) rfl (by decide) rfl rfl ?_
              refine a_iload (j := 3) dX9_mayTake_248 rfl ?_
              refine a_iload (j := 0) dX9_mayTake_250 rfl ?_
              refine a_aload_n (j := 5) dX9_mayTake_252 rfl rfl (Nat.le_of_ble_eq_true rfl) ?_
              refine b_getp (a := 123) (p := 136) dX9_mayTake_253 fwX9_47 (by decide) rfl (by decide) rfl rfl ?_
              refine a_iload (j := 3) dX9_mayTake_256 rfl ?_
              refine b_iaload (a := 136) (z := (mcF (bsT 2 T (WT 2 T) s m t).2)) (1600 * s + m) dX9_mayTake_258 (by decide) rfl (by omega) (by omega) (sp_nil rfl _) ((up2_ne (by omega)).trans ((up2_ne (by omega)).trans ((up2_ne (by omega)).trans hB.2.2.2))) (fun r258_28 => ?_)
              refine a_icmp_ge (tgt := 267) dX9_mayTake_259 (by decide) (fun c259_29 => ?_) (fun c259_29 => ?_)
              · refine a_aload_n (j := 5) dX9_mayTake_267 rfl rfl (Nat.le_of_ble_eq_true rfl) ?_
                refine b_getp (a := 123) (p := 136) dX9_mayTake_268 fwX9_47 (by decide) rfl (by decide) rfl rfl ?_
                refine a_iload (j := 3) dX9_mayTake_271 rfl ?_
                refine b_iaload (a := 136) (z := (mcF (bsT 2 T (WT 2 T) s m t).2)) (1600 * s + m) dX9_mayTake_273 (by decide) rfl (by omega) (by omega) (sp_nil rfl _) ((up2_ne (by omega)).trans ((up2_ne (by omega)).trans ((up2_ne (by omega)).trans hB.2.2.2))) (fun r273_30 => ?_)
                refine b_iastore (a := 136) (1600 * s + m) dX9_mayTake_274 (by decide) rfl (by omega) (by omega) (sp_nil rfl _) ?_
                exact a_vret dX9_mayTake_275 rfl (kQ _ (Fr_u (by decide) (Fr_u (by decide) (Fr_u (by decide) (Fr_u (by decide) Fr_r)))) (fun q hq => ⟨by rw [up2_ne (by omega), up2_ne (by omega), up2_ne (by omega), up2_ne (by omega)], by rw [up2_ne (by omega), up2_ne (by omega), up2_ne (by omega), up2_ne (by omega)], by rw [up2_ne (by omega), up2_ne (by omega), up2_ne (by omega), up2_ne (by omega)], by rw [up2_ne (by omega), up2_ne (by omega), up2_ne (by omega), up2_ne (by omega)]⟩) ⟨((up2_ne (by omega)).trans ((up2_ne (by omega)).trans ((up2_ne (by omega)).trans up2_at))).trans (by rw [bs0 hs2 hl]; first | (rw [if_pos (by omega)]; done) | (rw [if_neg (by omega)]; done) | (exfalso; omega)), ((up2_ne (by omega)).trans ((up2_ne (by omega)).trans up2_at)).trans (by rw [bs0 hs2 hl]; first | (rw [if_pos (by omega)]; done) | (rw [if_neg (by omega)]; done) | (exfalso; omega)), ((up2_ne (by omega)).trans up2_at).trans (by rw [bs1 hs2 hl (by omega)]; first | (rw [if_pos (by omega)]; done) | (rw [if_neg (by omega)]; done) | (exfalso; omega)), up2_at.trans (by rw [bs2 hs2 hl hbh hbs hmc]; first | (rw [if_pos (by omega)]; done) | (rw [if_neg (by omega)]; done) | (exfalso; omega))⟩)
              · refine a_iload (j := 0) dX9_mayTake_262 rfl ?_
                refine a_goto (tgt := 274) dX9_mayTake_264 (by decide) ?_
                refine b_iastore (a := 136) (1600 * s + m) dX9_mayTake_274 (by decide) rfl (by omega) (by omega) (sp_nil rfl _) ?_
                exact a_vret dX9_mayTake_275 rfl (kQ _ (Fr_u (by decide) (Fr_u (by decide) (Fr_u (by decide) (Fr_u (by decide) Fr_r)))) (fun q hq => ⟨by rw [up2_ne (by omega), up2_ne (by omega), up2_ne (by omega), up2_ne (by omega)], by rw [up2_ne (by omega), up2_ne (by omega), up2_ne (by omega), up2_ne (by omega)], by rw [up2_ne (by omega), up2_ne (by omega), up2_ne (by omega), up2_ne (by omega)], by rw [up2_ne (by omega), up2_ne (by omega), up2_ne (by omega), up2_ne (by omega)]⟩) ⟨((up2_ne (by omega)).trans ((up2_ne (by omega)).trans ((up2_ne (by omega)).trans up2_at))).trans (by rw [bs0 hs2 hl]; first | (rw [if_pos (by omega)]; done) | (rw [if_neg (by omega)]; done) | (exfalso; omega)), ((up2_ne (by omega)).trans ((up2_ne (by omega)).trans up2_at)).trans (by rw [bs0 hs2 hl]; first | (rw [if_pos (by omega)]; done) | (rw [if_neg (by omega)]; done) | (exfalso; omega)), ((up2_ne (by omega)).trans up2_at).trans (by rw [bs1 hs2 hl (by omega)]; first | (rw [if_pos (by omega)]; done) | (rw [if_neg (by omega)]; done) | (exfalso; omega)), up2_at.trans (by rw [bs2 hs2 hl hbh hbs hmc]; first | (rw [if_pos (by omega)]; done) | (rw [if_neg (by omega)]; done) | (exfalso; omega))⟩)
            · refine a_iload (j := 1) dX9_mayTake_231 rfl ?_
              refine a_goto (tgt := 243) dX9_mayTake_233 (by decide) ?_
              refine b_iastore (a := 135) (1600 * s + m) dX9_mayTake_243 (by decide) rfl (by omega) (by omega) (sp_nil rfl _) ?_
              refine a_aload_n (j := 5) dX9_mayTake_244 rfl rfl (Nat.le_of_ble_eq_true rfl) ?_
              refine b_getp (a := 123) (p := 136) dX9_mayTake_245 fwX9_47 (by decide) rfl (by decide) rfl rfl ?_
              refine a_iload (j := 3) dX9_mayTake_248 rfl ?_
              refine a_iload (j := 0) dX9_mayTake_250 rfl ?_
              refine a_aload_n (j := 5) dX9_mayTake_252 rfl rfl (Nat.le_of_ble_eq_true rfl) ?_
              refine b_getp (a := 123) (p := 136) dX9_mayTake_253 fwX9_47 (by decide) rfl (by decide) rfl rfl ?_
              refine a_iload (j := 3) dX9_mayTake_256 rfl ?_
              refine b_iaload (a := 136) (z := (mcF (bsT 2 T (WT 2 T) s m t).2)) (1600 * s + m) dX9_mayTake_258 (by decide) rfl (by omega) (by omega) (sp_nil rfl _) ((up2_ne (by omega)).trans ((up2_ne (by omega)).trans ((up2_ne (by omega)).trans hB.2.2.2))) (fun r258_31 => ?_)
              refine a_icmp_ge (tgt := 267) dX9_mayTake_259 (by decide) (fun c259_32 => ?_) (fun c259_32 => ?_)
              · refine a_aload_n (j := 5) dX9_mayTake_267 rfl rfl (Nat.le_of_ble_eq_true rfl) ?_
                refine b_getp (a := 123) (p := 136) dX9_mayTake_268 fwX9_47 (by decide) rfl (by decide) rfl rfl ?_
                refine a_iload (j := 3) dX9_mayTake_271 rfl ?_
                refine b_iaload (a := 136) (z := (mcF (bsT 2 T (WT 2 T) s m t).2)) (1600 * s + m) dX9_mayTake_273 (by decide) rfl (by omega) (by omega) (sp_nil rfl _) ((up2_ne (by omega)).trans ((up2_ne (by omega)).trans ((up2_ne (by omega)).trans hB.2.2.2))) (fun r273_33 => ?_)
                refine b_iastore (a := 136) (1600 * s + m) dX9_mayTake_274 (by decide) rfl (by omega) (by omega) (sp_nil rfl _) ?_
                exact a_vret dX9_mayTake_275 rfl (kQ _ (Fr_u (by decide) (Fr_u (by decide) (Fr_u (by decide) (Fr_u (by decide) Fr_r)))) (fun q hq => ⟨by rw [up2_ne (by omega), up2_ne (by omega), up2_ne (by omega), up2_ne (by omega)], by rw [up2_ne (by omega), up2_ne (by omega), up2_ne (by omega), up2_ne (by omega)], by rw [up2_ne (by omega), up2_ne (by omega), up2_ne (by omega), up2_ne (by omega)], by rw [up2_ne (by omega), up2_ne (by omega), up2_ne (by omega), up2_ne (by omega)]⟩) ⟨((up2_ne (by omega)).trans ((up2_ne (by omega)).trans ((up2_ne (by omega)).trans up2_at))).trans (by rw [bs0 hs2 hl]; first | (rw [if_pos (by omega)]; done) | (rw [if_neg (by omega)]; done) | (exfalso; omega)), ((up2_ne (by omega)).trans ((up2_ne (by omega)).trans up2_at)).trans (by rw [bs0 hs2 hl]; first | (rw [if_pos (by omega)]; done) | (rw [if_neg (by omega)]; done) | (exfalso; omega)), ((up2_ne (by omega)).trans up2_at).trans (by rw [bs1 hs2 hl (by omega)]; first | (rw [if_pos (by omega)]; done) | (rw [if_neg (by omega)]; done) | (exfalso; omega)), up2_at.trans (by rw [bs2 hs2 hl hbh hbs hmc]; first | (rw [if_pos (by omega)]; done) | (rw [if_neg (by omega)]; done) | (exfalso; omega))⟩)
              · refine a_iload (j := 0) dX9_mayTake_262 rfl ?_
                refine a_goto (tgt := 274) dX9_mayTake_264 (by decide) ?_
                refine b_iastore (a := 136) (1600 * s + m) dX9_mayTake_274 (by decide) rfl (by omega) (by omega) (sp_nil rfl _) ?_
                exact a_vret dX9_mayTake_275 rfl (kQ _ (Fr_u (by decide) (Fr_u (by decide) (Fr_u (by decide) (Fr_u (by decide) Fr_r)))) (fun q hq => ⟨by rw [up2_ne (by omega), up2_ne (by omega), up2_ne (by omega), up2_ne (by omega)], by rw [up2_ne (by omega), up2_ne (by omega), up2_ne (by omega), up2_ne (by omega)], by rw [up2_ne (by omega), up2_ne (by omega), up2_ne (by omega), up2_ne (by omega)], by rw [up2_ne (by omega), up2_ne (by omega), up2_ne (by omega), up2_ne (by omega)]⟩) ⟨((up2_ne (by omega)).trans ((up2_ne (by omega)).trans ((up2_ne (by omega)).trans up2_at))).trans (by rw [bs0 hs2 hl]; first | (rw [if_pos (by omega)]; done) | (rw [if_neg (by omega)]; done) | (exfalso; omega)), ((up2_ne (by omega)).trans ((up2_ne (by omega)).trans up2_at)).trans (by rw [bs0 hs2 hl]; first | (rw [if_pos (by omega)]; done) | (rw [if_neg (by omega)]; done) | (exfalso; omega)), ((up2_ne (by omega)).trans up2_at).trans (by rw [bs1 hs2 hl (by omega)]; first | (rw [if_pos (by omega)]; done) | (rw [if_neg (by omega)]; done) | (exfalso; omega)), up2_at.trans (by rw [bs2 hs2 hl hbh hbs hmc]; first | (rw [if_pos (by omega)]; done) | (rw [if_neg (by omega)]; done) | (exfalso; omega))⟩)
      · refine a_ldc (z := 1000000000) dX9_mayTake_149 kwX9_202 ⟨by decide, by decide, by decide⟩ ?_
        refine a_goto (tgt := 172) dX9_mayTake_151 (by decide) ?_
        have hmc : mcF (bhT 2 T (WT 2 T) t (m : Int)) = 1000000000 := by
          rw [hbm]; first | (rw [if_pos (by omega)]; done) | (rw [if_neg (by omega)]; omega)
        refine a_istore (lv' := [(6, vI 1000000000), (5, vI ((mnT T (WT 1 T) t (m : Int) 4) / 100)), (4, vI ((mnT T (WT 0 T) t (m : Int) 4) / 100)), (8, vI ((1600 * ((s : Nat) : Int)) + ((m : Nat) : Int))), (7, vI (T 3 t)), (0, vA 123), (1, vI ((t : Nat) : Int)), (2, vI ((s : Nat) : Int)), (3, vI ((m : Nat) : Int))]) dX9_mayTake_172 (by decide) rfl ?_
        refine a_aload_n (j := 5) dX9_mayTake_174 rfl rfl (Nat.le_of_ble_eq_true rfl) ?_
        refine b_getp (a := 123) (p := 134) dX9_mayTake_175 fwX9_41 (by decide) rfl (by decide) rfl rfl ?_
        refine a_iload (j := 3) dX9_mayTake_178 rfl ?_
        refine b_iaload (a := 134) (z := (bsT 0 T (WT 0 T) s m t).1) (1600 * s + m) dX9_mayTake_180 (by decide) rfl (by omega) (by omega) (sp_nil rfl _) hB.1 (fun r180_34 => ?_)
        refine a_if_lt (tgt := 196) dX9_mayTake_181 (by decide) (fun c181_35 => ?_) (fun c181_35 => ?_)
        · refine a_aload_n (j := 5) dX9_mayTake_196 rfl rfl (Nat.le_of_ble_eq_true rfl) ?_
          refine b_getp (a := 123) (p := 134) dX9_mayTake_197 fwX9_41 (by decide) rfl (by decide) rfl rfl ?_
          refine a_iload (j := 3) dX9_mayTake_200 rfl ?_
          refine a_iload_n (j := 6) dX9_mayTake_202 rfl rfl ?_
          refine b_iastore (a := 134) (1600 * s + m) dX9_mayTake_203 (by decide) rfl (by omega) (by omega) (sp_nil rfl _) ?_
          refine a_aload_n (j := 5) dX9_mayTake_204 rfl rfl (Nat.le_of_ble_eq_true rfl) ?_
          refine b_getp (a := 123) (p := 133) dX9_mayTake_205 fwX9_38 (by decide) rfl (by decide) rfl rfl ?_
          refine a_iload (j := 3) dX9_mayTake_208 rfl ?_
          refine a_iload (j := 2) dX9_mayTake_210 rfl ?_
          refine b_iastore (a := 133) (1600 * s + m) dX9_mayTake_212 (by decide) rfl (by omega) (by omega) (sp_nil rfl _) ?_
          refine a_aload_n (j := 5) dX9_mayTake_213 rfl rfl (Nat.le_of_ble_eq_true rfl) ?_
          refine b_getp (a := 123) (p := 135) dX9_mayTake_214 fwX9_44 (by decide) rfl (by decide) rfl rfl ?_
          refine a_iload (j := 3) dX9_mayTake_217 rfl ?_
          refine a_iload (j := 1) dX9_mayTake_219 rfl ?_
          refine a_aload_n (j := 5) dX9_mayTake_221 rfl rfl (Nat.le_of_ble_eq_true rfl) ?_
          refine b_getp (a := 123) (p := 135) dX9_mayTake_222 fwX9_44 (by decide) rfl (by decide) rfl rfl ?_
          refine a_iload (j := 3) dX9_mayTake_225 rfl ?_
          refine b_iaload (a := 135) (z := (bsT 1 T (WT 1 T) s m t).2) (1600 * s + m) dX9_mayTake_227 (by decide) rfl (by omega) (by omega) (sp_nil rfl _) ((up2_ne (by omega)).trans ((up2_ne (by omega)).trans hB.2.2.1)) (fun r227_36 => ?_)
          refine a_icmp_le (tgt := 236) dX9_mayTake_228 (by decide) (fun c228_37 => ?_) (fun c228_37 => ?_)
          · refine a_aload_n (j := 5) dX9_mayTake_236 rfl rfl (Nat.le_of_ble_eq_true rfl) ?_
            refine b_getp (a := 123) (p := 135) dX9_mayTake_237 fwX9_44 (by decide) rfl (by decide) rfl rfl ?_
            refine a_iload (j := 3) dX9_mayTake_240 rfl ?_
            refine b_iaload (a := 135) (z := (bsT 1 T (WT 1 T) s m t).2) (1600 * s + m) dX9_mayTake_242 (by decide) rfl (by omega) (by omega) (sp_nil rfl _) ((up2_ne (by omega)).trans ((up2_ne (by omega)).trans hB.2.2.1)) (fun r242_38 => ?_)
            refine b_iastore (a := 135) (1600 * s + m) dX9_mayTake_243 (by decide) rfl (by omega) (by omega) (sp_nil rfl _) ?_
            refine a_aload_n (j := 5) dX9_mayTake_244 rfl rfl (Nat.le_of_ble_eq_true rfl) ?_
            refine b_getp (a := 123) (p := 136) dX9_mayTake_245 fwX9_47 (by decide) rfl (by decide) rfl rfl ?_
            refine a_iload (j := 3) dX9_mayTake_248 rfl ?_
            refine a_iload (j := 0) dX9_mayTake_250 rfl ?_
            refine a_aload_n (j := 5) dX9_mayTake_252 rfl rfl (Nat.le_of_ble_eq_true rfl) ?_
            refine b_getp (a := 123) (p := 136) dX9_mayTake_253 fwX9_47 (by decide) rfl (by decide) rfl rfl ?_
            refine a_iload (j := 3) dX9_mayTake_256 rfl ?_
            refine b_iaload (a := 136) (z := (mcF (bsT 2 T (WT 2 T) s m t).2)) (1600 * s + m) dX9_mayTake_258 (by decide) rfl (by omega) (by omega) (sp_nil rfl _) ((up2_ne (by omega)).trans ((up2_ne (by omega)).trans ((up2_ne (by omega)).trans hB.2.2.2))) (fun r258_39 => ?_)
            refine a_icmp_ge (tgt := 267) dX9_mayTake_259 (by decide) (fun c259_40 => ?_) (fun c259_40 => ?_)
            · refine a_aload_n (j := 5) dX9_mayTake_267 rfl rfl (Nat.le_of_ble_eq_true rfl) ?_
              refine b_getp (a := 123) (p := 136) dX9_mayTake_268 fwX9_47 (by decide) rfl (by decide) rfl rfl ?_
              refine a_iload (j := 3) dX9_mayTake_271 rfl ?_
              refine b_iaload (a := 136) (z := (mcF (bsT 2 T (WT 2 T) s m t).2)) (1600 * s + m) dX9_mayTake_273 (by decide) rfl (by omega) (by omega) (sp_nil rfl _) ((up2_ne (by omega)).trans ((up2_ne (by omega)).trans ((up2_ne (by omega)).trans hB.2.2.2))) (fun r273_41 => ?_)
              refine b_iastore (a := 136) (1600 * s + m) dX9_mayTake_274 (by decide) rfl (by omega) (by omega) (sp_nil rfl _) ?_
              exact a_vret dX9_mayTake_275 rfl (kQ _ (Fr_u (by decide) (Fr_u (by decide) (Fr_u (by decide) (Fr_u (by decide) Fr_r)))) (fun q hq => ⟨by rw [up2_ne (by omega), up2_ne (by omega), up2_ne (by omega), up2_ne (by omega)], by rw [up2_ne (by omega), up2_ne (by omega), up2_ne (by omega), up2_ne (by omega)], by rw [up2_ne (by omega), up2_ne (by omega), up2_ne (by omega), up2_ne (by omega)], by rw [up2_ne (by omega), up2_ne (by omega), up2_ne (by omega), up2_ne (by omega)]⟩) ⟨((up2_ne (by omega)).trans ((up2_ne (by omega)).trans ((up2_ne (by omega)).trans up2_at))).trans (by rw [bs0 hs2 hl]; first | (rw [if_pos (by omega)]; done) | (rw [if_neg (by omega)]; done) | (exfalso; omega)), ((up2_ne (by omega)).trans ((up2_ne (by omega)).trans up2_at)).trans (by rw [bs0 hs2 hl]; first | (rw [if_pos (by omega)]; done) | (rw [if_neg (by omega)]; done) | (exfalso; omega)), ((up2_ne (by omega)).trans up2_at).trans (by rw [bs1 hs2 hl (by omega)]; first | (rw [if_pos (by omega)]; done) | (rw [if_neg (by omega)]; done) | (exfalso; omega)), up2_at.trans (by rw [bs2 hs2 hl hbh hbs hmc]; first | (rw [if_pos (by omega)]; done) | (rw [if_neg (by omega)]; done) | (exfalso; omega))⟩)
            · refine a_iload (j := 0) dX9_mayTake_262 rfl ?_
              refine a_goto (tgt := 274) dX9_mayTake_264 (by decide) ?_
              refine b_iastore (a := 136) (1600 * s + m) dX9_mayTake_274 (by decide) rfl (by omega) (by omega) (sp_nil rfl _) ?_
              exact a_vret dX9_mayTake_275 rfl (kQ _ (Fr_u (by decide) (Fr_u (by decide) (Fr_u (by decide) (Fr_u (by decide) Fr_r)))) (fun q hq => ⟨by rw [up2_ne (by omega), up2_ne (by omega), up2_ne (by omega), up2_ne (by omega)], by rw [up2_ne (by omega), up2_ne (by omega), up2_ne (by omega), up2_ne (by omega)], by rw [up2_ne (by omega), up2_ne (by omega), up2_ne (by omega), up2_ne (by omega)], by rw [up2_ne (by omega), up2_ne (by omega), up2_ne (by omega), up2_ne (by omega)]⟩) ⟨((up2_ne (by omega)).trans ((up2_ne (by omega)).trans ((up2_ne (by omega)).trans up2_at))).trans (by rw [bs0 hs2 hl]; first | (rw [if_pos (by omega)]; done) | (rw [if_neg (by omega)]; done) | (exfalso; omega)), ((up2_ne (by omega)).trans ((up2_ne (by omega)).trans up2_at)).trans (by rw [bs0 hs2 hl]; first | (rw [if_pos (by omega)]; done) | (rw [if_neg (by omega)]; done) | (exfalso; omega)), ((up2_ne (by omega)).trans up2_at).trans (by rw [bs1 hs2 hl (by omega)]; first | (rw [if_pos (by omega)]; done) | (rw [if_neg (by omega)]; done) | (exfalso; omega)), up2_at.trans (by rw [bs2 hs2 hl hbh hbs hmc]; first | (rw [if_pos (by omega)]; done) | (rw [if_neg (by omega)]; done) | (exfalso; omega))⟩)
          · refine a_iload (j := 1) dX9_mayTake_231 rfl ?_
            refine a_goto (tgt := 243) dX9_mayTake_233 (by decide) ?_
            refine b_iastore (a := 135) (1600 * s + m) dX9_mayTake_243 (by decide) rfl (by omega) (by omega) (sp_nil rfl _) ?_
            refine a_aload_n (j := 5) dX9_mayTake_244 rfl rfl (Nat.le_of_ble_eq_true rfl) ?_
            refine b_getp (a := 123) (p := 136) dX9_mayTake_245 fwX9_47 (by decide) rfl (by decide) rfl rfl ?_
            refine a_iload (j := 3) dX9_mayTake_248 rfl ?_
            refine a_iload (j := 0) dX9_mayTake_250 rfl ?_
            refine a_aload_n (j := 5) dX9_mayTake_252 rfl rfl (Nat.le_of_ble_eq_true rfl) ?_
            refine b_getp (a := 123) (p := 136) dX9_mayTake_253 fwX9_47 (by decide) rfl (by decide) rfl rfl ?_
            refine a_iload (j := 3) dX9_mayTake_256 rfl ?_
            refine b_iaload (a := 136) (z := (mcF (bsT 2 T (WT 2 T) s m t).2)) (1600 * s + m) dX9_mayTake_258 (by decide) rfl (by omega) (by omega) (sp_nil rfl _) ((up2_ne (by omega)).trans ((up2_ne (by omega)).trans ((up2_ne (by omega)).trans hB.2.2.2))) (fun r258_42 => ?_)
            refine a_icmp_ge (tgt := 267) dX9_mayTake_259 (by decide) (fun c259_43 => ?_) (fun c259_43 => ?_)
            · refine a_aload_n (j := 5) dX9_mayTake_267 rfl rfl (Nat.le_of_ble_eq_true rfl) ?_
              refine b_getp (a := 123) (p := 136) dX9_mayTake_268 fwX9_47 (by decide) rfl (by decide) rfl rfl ?_
              refine a_iload (j := 3) dX9_mayTake_271 rfl ?_
              refine b_iaload (a := 136) (z := (mcF (bsT 2 T (WT 2 T) s m t).2)) (1600 * s + m) dX9_mayTake_273 (by decide) rfl (by omega) (by omega) (sp_nil rfl _) ((up2_ne (by omega)).trans ((up2_ne (by omega)).trans ((up2_ne (by omega)).trans hB.2.2.2))) (fun r273_44 => ?_)
              refine b_iastore (a := 136) (1600 * s + m) dX9_mayTake_274 (by decide) rfl (by omega) (by omega) (sp_nil rfl _) ?_
              exact a_vret dX9_mayTake_275 rfl (kQ _ (Fr_u (by decide) (Fr_u (by decide) (Fr_u (by decide) (Fr_u (by decide) Fr_r)))) (fun q hq => ⟨by rw [up2_ne (by omega), up2_ne (by omega), up2_ne (by omega), up2_ne (by omega)], by rw [up2_ne (by omega), up2_ne (by omega), up2_ne (by omega), up2_ne (by omega)], by rw [up2_ne (by omega), up2_ne (by omega), up2_ne (by omega), up2_ne (by omega)], by rw [up2_ne (by omega), up2_ne (by omega), up2_ne (by omega), up2_ne (by omega)]⟩) ⟨((up2_ne (by omega)).trans ((up2_ne (by omega)).trans ((up2_ne (by omega)).trans up2_at))).trans (by rw [bs0 hs2 hl]; first | (rw [if_pos (by omega)]; done) | (rw [if_neg (by omega)]; done) | (exfalso; omega)), ((up2_ne (by omega)).trans ((up2_ne (by omega)).trans up2_at)).trans (by rw [bs0 hs2 hl]; first | (rw [if_pos (by omega)]; done) | (rw [if_neg (by omega)]; done) | (exfalso; omega)), ((up2_ne (by omega)).trans up2_at).trans (by rw [bs1 hs2 hl (by omega)]; first | (rw [if_pos (by omega)]; done) | (rw [if_neg (by omega)]; done) | (exfalso; omega)), up2_at.trans (by rw [bs2 hs2 hl hbh hbs hmc]; first | (rw [if_pos (by omega)]; done) | (rw [if_neg (by omega)]; done) | (exfalso; omega))⟩)
            · refine a_iload (j := 0) dX9_mayTake_262 rfl ?_
              refine a_goto (tgt := 274) dX9_mayTake_264 (by decide) ?_
              refine b_iastore (a := 136) (1600 * s + m) dX9_mayTake_274 (by decide) rfl (by omega) (by omega) (sp_nil rfl _) ?_
              exact a_vret dX9_mayTake_275 rfl (kQ _ (Fr_u (by decide) (Fr_u (by decide) (Fr_u (by decide) (Fr_u (by decide) Fr_r)))) (fun q hq => ⟨by rw [up2_ne (by omega), up2_ne (by omega), up2_ne (by omega), up2_ne (by omega)], by rw [up2_ne (by omega), up2_ne (by omega), up2_ne (by omega), up2_ne (by omega)], by rw [up2_ne (by omega), up2_ne (by omega), up2_ne (by omega), up2_ne (by omega)], by rw [up2_ne (by omega), up2_ne (by omega), up2_ne (by omega), up2_ne (by omega)]⟩) ⟨((up2_ne (by omega)).trans ((up2_ne (by omega)).trans ((up2_ne (by omega)).trans up2_at))).trans (by rw [bs0 hs2 hl]; first | (rw [if_pos (by omega)]; done) | (rw [if_neg (by omega)]; done) | (exfalso; omega)), ((up2_ne (by omega)).trans ((up2_ne (by omega)).trans up2_at)).trans (by rw [bs0 hs2 hl]; first | (rw [if_pos (by omega)]; done) | (rw [if_neg (by omega)]; done) | (exfalso; omega)), ((up2_ne (by omega)).trans up2_at).trans (by rw [bs1 hs2 hl (by omega)]; first | (rw [if_pos (by omega)]; done) | (rw [if_neg (by omega)]; done) | (exfalso; omega)), up2_at.trans (by rw [bs2 hs2 hl hbh hbs hmc]; first | (rw [if_pos (by omega)]; done) | (rw [if_neg (by omega)]; done) | (exfalso; omega))⟩)
        · refine a_iload (j := 2) dX9_mayTake_184 rfl ?_
          refine a_aload_n (j := 5) dX9_mayTake_186 rfl rfl (Nat.le_of_ble_eq_true rfl) ?_
          refine b_getp (a := 123) (p := 133) dX9_mayTake_187 fwX9_38 (by decide) rfl (by decide) rfl rfl ?_
          refine a_iload (j := 3) dX9_mayTake_190 rfl ?_
          refine b_iaload (a := 133) (z := (bsT 0 T (WT 0 T) s m t).2) (1600 * s + m) dX9_mayTake_192 (by decide) rfl (by omega) (by omega) (sp_nil rfl _) hB.2.1 (fun r192_45 => ?_)
          refine a_icmp_ge (tgt := 213) dX9_mayTake_193 (by decide) (fun c193_46 => ?_) (fun c193_46 => ?_)
          · refine a_aload_n (j := 5) dX9_mayTake_213 rfl rfl (Nat.le_of_ble_eq_true rfl) ?_
            refine b_getp (a := 123) (p := 135) dX9_mayTake_214 fwX9_44 (by decide) rfl (by decide) rfl rfl ?_
            refine a_iload (j := 3) dX9_mayTake_217 rfl ?_
            refine a_iload (j := 1) dX9_mayTake_219 rfl ?_
            refine a_aload_n (j := 5) dX9_mayTake_221 rfl rfl (Nat.le_of_ble_eq_true rfl) ?_
            refine b_getp (a := 123) (p := 135) dX9_mayTake_222 fwX9_44 (by decide) rfl (by decide) rfl rfl ?_
            refine a_iload (j := 3) dX9_mayTake_225 rfl ?_
            refine b_iaload (a := 135) (z := (bsT 1 T (WT 1 T) s m t).2) (1600 * s + m) dX9_mayTake_227 (by decide) rfl (by omega) (by omega) (sp_nil rfl _) hB.2.2.1 (fun r227_47 => ?_)
            refine a_icmp_le (tgt := 236) dX9_mayTake_228 (by decide) (fun c228_48 => ?_) (fun c228_48 => ?_)
            · refine a_aload_n (j := 5) dX9_mayTake_236 rfl rfl (Nat.le_of_ble_eq_true rfl) ?_
              refine b_getp (a := 123) (p := 135) dX9_mayTake_237 fwX9_44 (by decide) rfl (by decide) rfl rfl ?_
              refine a_iload (j := 3) dX9_mayTake_240 rfl ?_
              refine b_iaload (a := 135) (z := (bsT 1 T (WT 1 T) s m t).2) (1600 * s + m) dX9_mayTake_242 (by decide) rfl (by omega) (by omega) (sp_nil rfl _) hB.2.2.1 (fun r242_49 => ?_)
              refine b_iastore (a := 135) (1600 * s + m) dX9_mayTake_243 (by decide) rfl (by omega) (by omega) (sp_nil rfl _) ?_
              refine a_aload_n (j := 5) dX9_mayTake_244 rfl rfl (Nat.le_of_ble_eq_true rfl) ?_
              refine b_getp (a := 123) (p := 136) dX9_mayTake_245 fwX9_47 (by decide) rfl (by decide) rfl rfl ?_
              refine a_iload (j := 3) dX9_mayTake_248 rfl ?_
              refine a_iload (j := 0) dX9_mayTake_250 rfl ?_
              refine a_aload_n (j := 5) dX9_mayTake_252 rfl rfl (Nat.le_of_ble_eq_true rfl) ?_
              refine b_getp (a := 123) (p := 136) dX9_mayTake_253 fwX9_47 (by decide) rfl (by decide) rfl rfl ?_
              refine a_iload (j := 3) dX9_mayTake_256 rfl ?_
              refine b_iaload (a := 136) (z := (mcF (bsT 2 T (WT 2 T) s m t).2)) (1600 * s + m) dX9_mayTake_258 (by decide) rfl (by omega) (by omega) (sp_nil rfl _) ((up2_ne (by omega)).trans hB.2.2.2) (fun r258_50 => ?_)
              refine a_icmp_ge (tgt := 267) dX9_mayTake_259 (by decide) (fun c259_51 => ?_) (fun c259_51 => ?_)
              · refine a_aload_n (j := 5) dX9_mayTake_267 rfl rfl (Nat.le_of_ble_eq_true rfl) ?_
                refine b_getp (a := 123) (p := 136) dX9_mayTake_268 fwX9_47 (by decide) rfl (by decide) rfl rfl ?_
                refine a_iload (j := 3) dX9_mayTake_271 rfl ?_
                refine b_iaload (a := 136) (z := (mcF (bsT 2 T (WT 2 T) s m t).2)) (1600 * s + m) dX9_mayTake_273 (by decide) rfl (by omega) (by omega) (sp_nil rfl _) ((up2_ne (by omega)).trans hB.2.2.2) (fun r273_52 => ?_)
                refine b_iastore (a := 136) (1600 * s + m) dX9_mayTake_274 (by decide) rfl (by omega) (by omega) (sp_nil rfl _) ?_
                exact a_vret dX9_mayTake_275 rfl (kQ _ (Fr_u (by decide) (Fr_u (by decide) Fr_r)) (fun q hq => ⟨by rw [up2_ne (by omega), up2_ne (by omega)], by rw [up2_ne (by omega), up2_ne (by omega)], by rw [up2_ne (by omega), up2_ne (by omega)], by rw [up2_ne (by omega), up2_ne (by omega)]⟩) ⟨((up2_ne (by omega)).trans ((up2_ne (by omega)).trans hB.1)).trans (by rw [bs0 hs2 hl]; first | (rw [if_pos (by omega)]; done) | (rw [if_neg (by omega)]; done) | (exfalso; omega)), ((up2_ne (by omega)).trans ((up2_ne (by omega)).trans hB.2.1)).trans (by rw [bs0 hs2 hl]; first | (rw [if_pos (by omega)]; done) | (rw [if_neg (by omega)]; done) | (exfalso; omega)), ((up2_ne (by omega)).trans up2_at).trans (by rw [bs1 hs2 hl (by omega)]; first | (rw [if_pos (by omega)]; done) | (rw [if_neg (by omega)]; done) | (exfalso; omega)), up2_at.trans (by rw [bs2 hs2 hl hbh hbs hmc]; first | (rw [if_pos (by omega)]; done) | (rw [if_neg (by omega)]; done) | (exfalso; omega))⟩)
              · refine a_iload (j := 0) dX9_mayTake_262 rfl ?_
                refine a_goto (tgt := 274) dX9_mayTake_264 (by decide) ?_
                refine b_iastore (a := 136) (1600 * s + m) dX9_mayTake_274 (by decide) rfl (by omega) (by omega) (sp_nil rfl _) ?_
                exact a_vret dX9_mayTake_275 rfl (kQ _ (Fr_u (by decide) (Fr_u (by decide) Fr_r)) (fun q hq => ⟨by rw [up2_ne (by omega), up2_ne (by omega)], by rw [up2_ne (by omega), up2_ne (by omega)], by rw [up2_ne (by omega), up2_ne (by omega)], by rw [up2_ne (by omega), up2_ne (by omega)]⟩) ⟨((up2_ne (by omega)).trans ((up2_ne (by omega)).trans hB.1)).trans (by rw [bs0 hs2 hl]; first | (rw [if_pos (by omega)]; done) | (rw [if_neg (by omega)]; done) | (exfalso; omega)), ((up2_ne (by omega)).trans ((up2_ne (by omega)).trans hB.2.1)).trans (by rw [bs0 hs2 hl]; first | (rw [if_pos (by omega)]; done) | (rw [if_neg (by omega)]; done) | (exfalso; omega)), ((up2_ne (by omega)).trans up2_at).trans (by rw [bs1 hs2 hl (by omega)]; first | (rw [if_pos (by omega)]; done) | (rw [if_neg (by omega)]; done) | (exfalso; omega)), up2_at.trans (by rw [bs2 hs2 hl hbh hbs hmc]; first | (rw [if_pos (by omega)]; done) | (rw [if_neg (by omega)]; done) | (exfalso; omega))⟩)
            · refine a_iload (j := 1) dX9_mayTake_231 rfl ?_
              refine a_goto (tgt := 243) dX9_mayTake_233 (by decide) ?_
              refine b_iastore (a := 135) (1600 * s + m) dX9_mayTake_243 (by decide) rfl (by omega) (by omega) (sp_nil rfl _) ?_
              refine a_aload_n (j := 5) dX9_mayTake_244 rfl rfl (Nat.le_of_ble_eq_true rfl) ?_
              refine b_getp (a := 123) (p := 136) dX9_mayTake_245 fwX9_47 (by decide) rfl (by decide) rfl rfl ?_
              refine a_iload (j := 3) dX9_mayTake_248 rfl ?_
              refine a_iload (j := 0) dX9_mayTake_250 rfl ?_
              refine a_aload_n (j := 5) dX9_mayTake_252 rfl rfl (Nat.le_of_ble_eq_true rfl) ?_
              refine b_getp (a := 123) (p := 136) dX9_mayTake_253 fwX9_47 (by decide) rfl (by decide) rfl rfl ?_
              refine a_iload (j := 3) dX9_mayTake_256 rfl ?_
              refine b_iaload (a := 136) (z := (mcF (bsT 2 T (WT 2 T) s m t).2)) (1600 * s + m) dX9_mayTake_258 (by decide) rfl (by omega) (by omega) (sp_nil rfl _) ((up2_ne (by omega)).trans hB.2.2.2) (fun r258_53 => ?_)
              refine a_icmp_ge (tgt := 267) dX9_mayTake_259 (by decide) (fun c259_54 => ?_) (fun c259_54 => ?_)
              · refine a_aload_n (j := 5) dX9_mayTake_267 rfl rfl (Nat.le_of_ble_eq_true rfl) ?_
                refine b_getp (a := 123) (p := 136) dX9_mayTake_268 fwX9_47 (by decide) rfl (by decide) rfl rfl ?_
                refine a_iload (j := 3) dX9_mayTake_271 rfl ?_
                refine b_iaload (a := 136) (z := (mcF (bsT 2 T (WT 2 T) s m t).2)) (1600 * s + m) dX9_mayTake_273 (by decide) rfl (by omega) (by omega) (sp_nil rfl _) ((up2_ne (by omega)).trans hB.2.2.2) (fun r273_55 => ?_)
                refine b_iastore (a := 136) (1600 * s + m) dX9_mayTake_274 (by decide) rfl (by omega) (by omega) (sp_nil rfl _) ?_
                exact a_vret dX9_mayTake_275 rfl (kQ _ (Fr_u (by decide) (Fr_u (by decide) Fr_r)) (fun q hq => ⟨by rw [up2_ne (by omega), up2_ne (by omega)], by rw [up2_ne (by omega), up2_ne (by omega)], by rw [up2_ne (by omega), up2_ne (by omega)], by rw [up2_ne (by omega), up2_ne (by omega)]⟩) ⟨((up2_ne (by omega)).trans ((up2_ne (by omega)).trans hB.1)).trans (by rw [bs0 hs2 hl]; first | (rw [if_pos (by omega)]; done) | (rw [if_neg (by omega)]; done) | (exfalso; omega)), ((up2_ne (by omega)).trans ((up2_ne (by omega)).trans hB.2.1)).trans (by rw [bs0 hs2 hl]; first | (rw [if_pos (by omega)]; done) | (rw [if_neg (by omega)]; done) | (exfalso; omega)), ((up2_ne (by omega)).trans up2_at).trans (by rw [bs1 hs2 hl (by omega)]; first | (rw [if_pos (by omega)]; done) | (rw [if_neg (by omega)]; done) | (exfalso; omega)), up2_at.trans (by rw [bs2 hs2 hl hbh hbs hmc]; first | (rw [if_pos (by omega)]; done) | (rw [if_neg (by omega)]; done) | (exfalso; omega))⟩)
              · refine a_iload (j := 0) dX9_mayTake_262 rfl ?_
                refine a_goto (tgt := 274) dX9_mayTake_264 (by decide) ?_
                refine b_iastore (a := 136) (1600 * s + m) dX9_mayTake_274 (by decide) rfl (by omega) (by omega) (sp_nil rfl _) ?_
                exact a_vret dX9_mayTake_275 rfl (kQ _ (Fr_u (by decide) (Fr_u (by decide) Fr_r)) (fun q hq => ⟨by rw [up2_ne (by omega), up2_ne (by omega)], by rw [up2_ne (by omega), up2_ne (by omega)], by rw [up2_ne (by omega), up2_ne (by omega)], by rw [up2_ne (by omega), up2_ne (by omega)]⟩) ⟨((up2_ne (by omega)).trans ((up2_ne (by omega)).trans hB.1)).trans (by rw [bs0 hs2 hl]; first | (rw [if_pos (by omega)]; done) | (rw [if_neg (by omega)]; done) | (exfalso; omega)), ((up2_ne (by omega)).trans ((up2_ne (by omega)).trans hB.2.1)).trans (by rw [bs0 hs2 hl]; first | (rw [if_pos (by omega)]; done) | (rw [if_neg (by omega)]; done) | (exfalso; omega)), ((up2_ne (by omega)).trans up2_at).trans (by rw [bs1 hs2 hl (by omega)]; first | (rw [if_pos (by omega)]; done) | (rw [if_neg (by omega)]; done) | (exfalso; omega)), up2_at.trans (by rw [bs2 hs2 hl hbh hbs hmc]; first | (rw [if_pos (by omega)]; done) | (rw [if_neg (by omega)]; done) | (exfalso; omega))⟩)
          · refine a_aload_n (j := 5) dX9_mayTake_196 rfl rfl (Nat.le_of_ble_eq_true rfl) ?_
            refine b_getp (a := 123) (p := 134) dX9_mayTake_197 fwX9_41 (by decide) rfl (by decide) rfl rfl ?_
            refine a_iload (j := 3) dX9_mayTake_200 rfl ?_
            refine a_iload_n (j := 6) dX9_mayTake_202 rfl rfl ?_
            refine b_iastore (a := 134) (1600 * s + m) dX9_mayTake_203 (by decide) rfl (by omega) (by omega) (sp_nil rfl _) ?_
            refine a_aload_n (j := 5) dX9_mayTake_204 rfl rfl (Nat.le_of_ble_eq_true rfl) ?_
            refine b_getp (a := 123) (p := 133) dX9_mayTake_205 fwX9_38 (by decide) rfl (by decide) rfl rfl ?_
            refine a_iload (j := 3) dX9_mayTake_208 rfl ?_
            refine a_iload (j := 2) dX9_mayTake_210 rfl ?_
            refine b_iastore (a := 133) (1600 * s + m) dX9_mayTake_212 (by decide) rfl (by omega) (by omega) (sp_nil rfl _) ?_
            refine a_aload_n (j := 5) dX9_mayTake_213 rfl rfl (Nat.le_of_ble_eq_true rfl) ?_
            refine b_getp (a := 123) (p := 135) dX9_mayTake_214 fwX9_44 (by decide) rfl (by decide) rfl rfl ?_
            refine a_iload (j := 3) dX9_mayTake_217 rfl ?_
            refine a_iload (j := 1) dX9_mayTake_219 rfl ?_
            refine a_aload_n (j := 5) dX9_mayTake_221 rfl rfl (Nat.le_of_ble_eq_true rfl) ?_
            refine b_getp (a := 123) (p := 135) dX9_mayTake_222 fwX9_44 (by decide) rfl (by decide) rfl rfl ?_
            refine a_iload (j := 3) dX9_mayTake_225 rfl ?_
            refine b_iaload (a := 135) (z := (bsT 1 T (WT 1 T) s m t).2) (1600 * s + m) dX9_mayTake_227 (by decide) rfl (by omega) (by omega) (sp_nil rfl _) ((up2_ne (by omega)).trans ((up2_ne (by omega)).trans hB.2.2.1)) (fun r227_56 => ?_)
            refine a_icmp_le (tgt := 236) dX9_mayTake_228 (by decide) (fun c228_57 => ?_) (fun c228_57 => ?_)
            · refine a_aload_n (j := 5) dX9_mayTake_236 rfl rfl (Nat.le_of_ble_eq_true rfl) ?_
              refine b_getp (a := 123) (p := 135) dX9_mayTake_237 fwX9_44 (by decide) rfl (by decide) rfl rfl ?_
              refine a_iload (j := 3) dX9_mayTake_240 rfl ?_
              refine b_iaload (a := 135) (z := (bsT 1 T (WT 1 T) s m t).2) (1600 * s + m) dX9_mayTake_242 (by decide) rfl (by omega) (by omega) (sp_nil rfl _) ((up2_ne (by omega)).trans ((up2_ne (by omega)).trans hB.2.2.1)) (fun r242_58 => ?_)
              refine b_iastore (a := 135) (1600 * s + m) dX9_mayTake_243 (by decide) rfl (by omega) (by omega) (sp_nil rfl _) ?_
              refine a_aload_n (j := 5) dX9_mayTake_244 rfl rfl (Nat.le_of_ble_eq_true rfl) ?_
              refine b_getp (a := 123) (p := 136) dX9_mayTake_245 fwX9_47 (by decide) rfl (by decide) rfl rfl ?_
              refine a_iload (j := 3) dX9_mayTake_248 rfl ?_
              refine a_iload (j := 0) dX9_mayTake_250 rfl ?_
              refine a_aload_n (j := 5) dX9_mayTake_252 rfl rfl (Nat.le_of_ble_eq_true rfl) ?_
              refine b_getp (a := 123) (p := 136) dX9_mayTake_253 fwX9_47 (by decide) rfl (by decide) rfl rfl ?_
              refine a_iload (j := 3) dX9_mayTake_256 rfl ?_
              refine b_iaload (a := 136) (z := (mcF (bsT 2 T (WT 2 T) s m t).2)) (1600 * s + m) dX9_mayTake_258 (by decide) rfl (by omega) (by omega) (sp_nil rfl _) ((up2_ne (by omega)).trans ((up2_ne (by omega)).trans ((up2_ne (by omega)).trans hB.2.2.2))) (fun r258_59 => ?_)
              refine a_icmp_ge (tgt := 267) dX9_mayTake_259 (by decide) (fun c259_60 => ?_) (fun c259_60 => ?_)
              · refine a_aload_n (j := 5) dX9_mayTake_267 rfl rfl (Nat.le_of_ble_eq_true rfl) ?_
                refine b_getp (a := 123) (p := 136) dX9_mayTake_268 fwX9_47 (by decide) rfl (by decide) rfl rfl ?_
                refine a_iload (j := 3) dX9_mayTake_271 rfl ?_
                refine b_iaload (a := 136) (z := (mcF (bsT 2 T (WT 2 T) s m t).2)) (1600 * s + m) dX9_mayTake_273 (by decide) rfl (by omega) (by omega) (sp_nil rfl _) ((up2_ne (by omega)).trans ((up2_ne (by omega)).trans ((up2_ne (by omega)).trans hB.2.2.2))) (fun r273_61 => ?_)
                refine b_iastore (a := 136) (1600 * s + m) dX9_mayTake_274 (by decide) rfl (by omega) (by omega) (sp_nil rfl _) ?_
                exact a_vret dX9_mayTake_275 rfl (kQ _ (Fr_u (by decide) (Fr_u (by decide) (Fr_u (by decide) (Fr_u (by decide) Fr_r)))) (fun q hq => ⟨by rw [up2_ne (by omega), up2_ne (by omega), up2_ne (by omega), up2_ne (by omega)], by rw [up2_ne (by omega), up2_ne (by omega), up2_ne (by omega), up2_ne (by omega)], by rw [up2_ne (by omega), up2_ne (by omega), up2_ne (by omega), up2_ne (by omega)], by rw [up2_ne (by omega), up2_ne (by omega), up2_ne (by omega), up2_ne (by omega)]⟩) ⟨((up2_ne (by omega)).trans ((up2_ne (by omega)).trans ((up2_ne (by omega)).trans up2_at))).trans (by rw [bs0 hs2 hl]; first | (rw [if_pos (by omega)]; done) | (rw [if_neg (by omega)]; done) | (exfalso; omega)), ((up2_ne (by omega)).trans ((up2_ne (by omega)).trans up2_at)).trans (by rw [bs0 hs2 hl]; first | (rw [if_pos (by omega)]; done) | (rw [if_neg (by omega)]; done) | (exfalso; omega)), ((up2_ne (by omega)).trans up2_at).trans (by rw [bs1 hs2 hl (by omega)]; first | (rw [if_pos (by omega)]; done) | (rw [if_neg (by omega)]; done) | (exfalso; omega)), up2_at.trans (by rw [bs2 hs2 hl hbh hbs hmc]; first | (rw [if_pos (by omega)]; done) | (rw [if_neg (by omega)]; done) | (exfalso; omega))⟩)
              · refine a_iload (j := 0) dX9_mayTake_262 rfl ?_
                refine a_goto (tgt := 274) dX9_mayTake_264 (by decide) ?_
                refine b_iastore (a := 136) (1600 * s + m) dX9_mayTake_274 (by decide) rfl (by omega) (by omega) (sp_nil rfl _) ?_
                exact a_vret dX9_mayTake_275 rfl (kQ _ (Fr_u (by decide) (Fr_u (by decide) (Fr_u (by decide) (Fr_u (by decide) Fr_r)))) (fun q hq => ⟨by rw [up2_ne (by omega), up2_ne (by omega), up2_ne (by omega), up2_ne (by omega)], by rw [up2_ne (by omega), up2_ne (by omega), up2_ne (by omega), up2_ne (by omega)], by rw [up2_ne (by omega), up2_ne (by omega), up2_ne (by omega), up2_ne (by omega)], by rw [up2_ne (by omega), up2_ne (by omega), up2_ne (by omega), up2_ne (by omega)]⟩) ⟨((up2_ne (by omega)).trans ((up2_ne (by omega)).trans ((up2_ne (by omega)).trans up2_at))).trans (by rw [bs0 hs2 hl]; first | (rw [if_pos (by omega)]; done) | (rw [if_neg (by omega)]; done) | (exfalso; omega)), ((up2_ne (by omega)).trans ((up2_ne (by omega)).trans up2_at)).trans (by rw [bs0 hs2 hl]; first | (rw [if_pos (by omega)]; done) | (rw [if_neg (by omega)]; done) | (exfalso; omega)), ((up2_ne (by omega)).trans up2_at).trans (by rw [bs1 hs2 hl (by omega)]; first | (rw [if_pos (by omega)]; done) | (rw [if_neg (by omega)]; done) | (exfalso; omega)), up2_at.trans (by rw [bs2 hs2 hl hbh hbs hmc]; first | (rw [if_pos (by omega)]; done) | (rw [if_neg (by omega)]; done) | (exfalso; omega))⟩)
            · refine a_iload (j := 1) dX9_mayTake_231 rfl ?_
              refine a_goto (tgt := 243) dX9_mayTake_233 (by decide) ?_
              refine b_iastore (a := 135) (1600 * s + m) dX9_mayTake_243 (by decide) rfl (by omega) (by omega) (sp_nil rfl _) ?_
              refine a_aload_n (j := 5) dX9_mayTake_244 rfl rfl (Nat.le_of_ble_eq_true rfl) ?_
              refine b_getp (a := 123) (p := 136) dX9_mayTake_245 fwX9_47 (by decide) rfl (by decide) rfl rfl ?_
              refine a_iload (j := 3) dX9_mayTake_248 rfl ?_
              refine a_iload (j := 0) dX9_mayTake_250 rfl ?_
              refine a_aload_n (j := 5) dX9_mayTake_252 rfl rfl (Nat.le_of_ble_eq_true rfl) ?_
              refine b_getp (a := 123) (p := 136) dX9_mayTake_253 fwX9_47 (by decide) rfl (by decide) rfl rfl ?_
              refine a_iload (j := 3) dX9_mayTake_256 rfl ?_
              refine b_iaload (a := 136) (z := (mcF (bsT 2 T (WT 2 T) s m t).2)) (1600 * s + m) dX9_mayTake_258 (by decide) rfl (by omega) (by omega) (sp_nil rfl _) ((up2_ne (by omega)).trans ((up2_ne (by omega)).trans ((up2_ne (by omega)).trans hB.2.2.2))) (fun r258_62 => ?_)
              refine a_icmp_ge (tgt := 267) dX9_mayTake_259 (by decide) (fun c259_63 => ?_) (fun c259_63 => ?_)
              · refine a_aload_n (j := 5) dX9_mayTake_267 rfl rfl (Nat.le_of_ble_eq_true rfl) ?_
                refine b_getp (a := 123) (p := 136) dX9_mayTake_268 fwX9_47 (by decide) rfl (by decide) rfl rfl ?_
                refine a_iload (j := 3) dX9_mayTake_271 rfl ?_
                refine b_iaload (a := 136) (z := (mcF (bsT 2 T (WT 2 T) s m t).2)) (1600 * s + m) dX9_mayTake_273 (by decide) rfl (by omega) (by omega) (sp_nil rfl _) ((up2_ne (by omega)).trans ((up2_ne (by omega)).trans ((up2_ne (by omega)).trans hB.2.2.2))) (fun r273_64 => ?_)
                refine b_iastore (a := 136) (1600 * s + m) dX9_mayTake_274 (by decide) rfl (by omega) (by omega) (sp_nil rfl _) ?_
                exact a_vret dX9_mayTake_275 rfl (kQ _ (Fr_u (by decide) (Fr_u (by decide) (Fr_u (by decide) (Fr_u (by decide) Fr_r)))) (fun q hq => ⟨by rw [up2_ne (by omega), up2_ne (by omega), up2_ne (by omega), up2_ne (by omega)], by rw [up2_ne (by omega), up2_ne (by omega), up2_ne (by omega), up2_ne (by omega)], by rw [up2_ne (by omega), up2_ne (by omega), up2_ne (by omega), up2_ne (by omega)], by rw [up2_ne (by omega), up2_ne (by omega), up2_ne (by omega), up2_ne (by omega)]⟩) ⟨((up2_ne (by omega)).trans ((up2_ne (by omega)).trans ((up2_ne (by omega)).trans up2_at))).trans (by rw [bs0 hs2 hl]; first | (rw [if_pos (by omega)]; done) | (rw [if_neg (by omega)]; done) | (exfalso; omega)), ((up2_ne (by omega)).trans ((up2_ne (by omega)).trans up2_at)).trans (by rw [bs0 hs2 hl]; first | (rw [if_pos (by omega)]; done) | (rw [if_neg (by omega)]; done) | (exfalso; omega)), ((up2_ne (by omega)).trans up2_at).trans (by rw [bs1 hs2 hl (by omega)]; first | (rw [if_pos (by omega)]; done) | (rw [if_neg (by omega)]; done) | (exfalso; omega)), up2_at.trans (by rw [bs2 hs2 hl hbh hbs hmc]; first | (rw [if_pos (by omega)]; done) | (rw [if_neg (by omega)]; done) | (exfalso; omega))⟩)
              · refine a_iload (j := 0) dX9_mayTake_262 rfl ?_
                refine a_goto (tgt := 274) dX9_mayTake_264 (by decide) ?_
                refine b_iastore (a := 136) (1600 * s + m) dX9_mayTake_274 (by decide) rfl (by omega) (by omega) (sp_nil rfl _) ?_
                exact a_vret dX9_mayTake_275 rfl (kQ _ (Fr_u (by decide) (Fr_u (by decide) (Fr_u (by decide) (Fr_u (by decide) Fr_r)))) (fun q hq => ⟨by rw [up2_ne (by omega), up2_ne (by omega), up2_ne (by omega), up2_ne (by omega)], by rw [up2_ne (by omega), up2_ne (by omega), up2_ne (by omega), up2_ne (by omega)], by rw [up2_ne (by omega), up2_ne (by omega), up2_ne (by omega), up2_ne (by omega)], by rw [up2_ne (by omega), up2_ne (by omega), up2_ne (by omega), up2_ne (by omega)]⟩) ⟨((up2_ne (by omega)).trans ((up2_ne (by omega)).trans ((up2_ne (by omega)).trans up2_at))).trans (by rw [bs0 hs2 hl]; first | (rw [if_pos (by omega)]; done) | (rw [if_neg (by omega)]; done) | (exfalso; omega)), ((up2_ne (by omega)).trans ((up2_ne (by omega)).trans up2_at)).trans (by rw [bs0 hs2 hl]; first | (rw [if_pos (by omega)]; done) | (rw [if_neg (by omega)]; done) | (exfalso; omega)), ((up2_ne (by omega)).trans up2_at).trans (by rw [bs1 hs2 hl (by omega)]; first | (rw [if_pos (by omega)]; done) | (rw [if_neg (by omega)]; done) | (exfalso; omega)), up2_at.trans (by rw [bs2 hs2 hl hbh hbs hmc]; first | (rw [if_pos (by omega)]; done) | (rw [if_neg (by omega)]; done) | (exfalso; omega))⟩)
    · have qs9 := qa.2.2.2.2.2.2.1 i (by omega)
      have har := arT_rng hT (t := t) (s := i) (m := (m : Int)) (by omega)
      have q10 := hmn0 i (by omega)
      have q20 := hmn0 (i + 1) (by omega)
      rw [mn_s] at q20
      have q11 := hmn1 i (by omega)
      have q21 := hmn1 (i + 1) (by omega)
      rw [mn_s] at q21
      have hw0 := WT0_rng hT (stop := T 3 t) (m := arT T t i (m : Int)) (by omega) (by omega)
      have hw1 := WT1_rng hT (stop := T 3 t) (m := arT T t i (m : Int))
      have hw2 := WT2_rng hT (stop := T 3 t) (m := arT T t i (m : Int)) (by omega)
      have hmcw := mcF_c (WT 2 T (T 3 t) (arT T t i (m : Int)))
      have hp0 := mul_rng qs9.1 hw0
      have hp1 := mul_rng qs9.1 hw1
      refine a_aload_n (j := 5) dX9_mayTake_26 rfl rfl (Nat.le_of_ble_eq_true rfl) ?_
      refine a_iload_n (j := 6) dX9_mayTake_27 rfl rfl ?_
      refine a_bipush dX9_mayTake_28 ⟨by decide, by decide, by decide⟩ ?_
      refine a_iload (j := 0) dX9_mayTake_30 rfl ?_
      refine a_iadd (z := (7 + ((i : Nat) : Int))) dX9_mayTake_32 (w_ok (by omega) (by omega)) ?_
      refine b_callV (d' := d - 1) (mc' := 0) (ms' := 0) (mc1 := 0) (ms1 := 0) (st := []) (b := 123) [vI ((t : Nat) : Int), vI (7 + ((i : Nat) : Int))] dX9_mayTake_33 mwX9_of lkX9_107 (by decide) rfl rc_X9 rfl (Nat.le_of_ble_eq_true rfl) (by omega) rfl rfl (c_X9_of (v1 := (T 8 (4 * t + i))) (by omega)  ((congrArg (h 124) (show (Int.toNat ((15 + (11 * ((t : Nat) : Int))) + (7 + ((i : Nat) : Int)))) = (22 + 11 * t + i) by omega)).trans ((hRT.1.2 t (by omega)).2.2.2.2.2 i (by omega))) (show 0 ≤ ((t : Nat) : Int) ∧ ((t : Nat) : Int) ≤ 11 ∧ 0 ≤ (7 + ((i : Nat) : Int)) ∧ (7 + ((i : Nat) : Int)) ≤ 10 by omega) ?_)
      show Aj γ mX9_mayTake d 0 0 Post 36 [(8, vI ((i : Nat) : Int)), (4, vI (mnT T (WT 0 T) t (m : Int) i)), (5, vI (mnT T (WT 1 T) t (m : Int) i)), (6, vI (mcF (dmT T (WT 2 T) t (m : Int) i))), (7, vI (T 3 t)), (0, vA 123), (1, vI ((t : Nat) : Int)), (2, vI ((s : Nat) : Int)), (3, vI ((m : Nat) : Int))] [vI (T 8 (4 * t + i))] (mk h τ)
      refine a_istore (lv' := [(9, vI (T 8 (4 * t + i))), (8, vI ((i : Nat) : Int)), (4, vI (mnT T (WT 0 T) t (m : Int) i)), (5, vI (mnT T (WT 1 T) t (m : Int) i)), (6, vI (mcF (dmT T (WT 2 T) t (m : Int) i))), (7, vI (T 3 t)), (0, vA 123), (1, vI ((t : Nat) : Int)), (2, vI ((s : Nat) : Int)), (3, vI ((m : Nat) : Int))]) dX9_mayTake_36 (by decide) rfl ?_
      refine a_iload (j := 0) dX9_mayTake_38 rfl ?_
      refine a_if_le (tgt := 113) dX9_mayTake_40 (by decide) (fun c40_65 => ?_) (fun c40_65 => ?_)
      · refine a_iinc (j := 1) (z' := ((i + 1 : Nat) : Int)) (lv' := [(8, vI ((i + 1 : Nat) : Int)), (9, vI (T 8 (4 * t + i))), (4, vI (mnT T (WT 0 T) t (m : Int) i)), (5, vI (mnT T (WT 1 T) t (m : Int) i)), (6, vI (mcF (dmT T (WT 2 T) t (m : Int) i))), (7, vI (T 3 t)), (0, vA 123), (1, vI ((t : Nat) : Int)), (2, vI ((s : Nat) : Int)), (3, vI ((m : Nat) : Int))]) dX9_mayTake_113 rfl (w_okN (by omega) (by omega) (by omega)) (by decide) rfl ?_
        refine a_goto (tgt := 20) dX9_mayTake_116 (by decide) ?_
        have e4 : mnT T (WT 0 T) t (m : Int) (i + 1) = (mnT T (WT 0 T) t (m : Int) i) := mn_z (by omega)
        have e5 : mnT T (WT 1 T) t (m : Int) (i + 1) = (mnT T (WT 1 T) t (m : Int) i) := mn_z (by omega)
        have e6 : mcF (dmT T (WT 2 T) t (m : Int) (i + 1)) = (mcF (dmT T (WT 2 T) t (m : Int) i)) := by rw [dm_s, if_pos (by omega)]
        have q := ih (i + 1) (by omega) (by omega)
        rw [e4, e5, e6] at q
        exact a_lv (lv' := [(8, vI (((i + 1) : Nat) : Int)), (4, vI (mnT T (WT 0 T) t (m : Int) i)), (5, vI (mnT T (WT 1 T) t (m : Int) i)), (6, vI (mcF (dmT T (WT 2 T) t (m : Int) i))), (7, vI (T 3 t)), (0, vA 123), (1, vI ((t : Nat) : Int)), (2, vI ((s : Nat) : Int)), (3, vI ((m : Nat) : Int))]) (by intro q hq; simp only [List.mem_cons, List.not_mem_nil, or_false] at hq ⊢; rcases hq with rfl | rfl | rfl | rfl | rfl | rfl | rfl | rfl | rfl <;> simp) q
      · refine a_aload_n (j := 6) dX9_mayTake_43 rfl rfl (Nat.le_of_ble_eq_true rfl) ?_
        refine a_iload_n (j := 7) dX9_mayTake_44 rfl rfl ?_
        refine a_iload_n (j := 9) dX9_mayTake_45 rfl rfl ?_
        refine a_iload (j := 1) dX9_mayTake_46 rfl ?_
        refine b_callV (d' := d - 1) (mc' := 0) (ms' := 0) (mc1 := 0) (ms1 := 0) (st := []) (b := 123) [vI ((t : Nat) : Int), vI ((m : Nat) : Int), vI ((i : Nat) : Int)] dX9_mayTake_48 mwX9_readyBy lkX9_203 (by decide) rfl rc_X9 rfl (Nat.le_of_ble_eq_true rfl) (by omega) rfl rfl (c_X9_readyBy (v1 := (T 6 t)) (v2 := (T 9 (4 * t + i) - T 6 t)) (v3 := (T 4 t)) (v4 := (T 3 t)) (v5 := (T 1 (Int.toNat (T 3 t)))) (v6 := (T 0 0)) (by omega)  ((congrArg (h 128) (show (Int.toNat ((t : Nat) : Int)) = t by omega)).trans (hRT.2.2 t (by omega)).1) ((congrArg (h 130) (show (Int.toNat ((4 * ((t : Nat) : Int)) + ((i : Nat) : Int))) = (4 * t + i) by omega)).trans ((hRT.2.2 t (by omega)).2.2 i (by omega))) ((congrArg (h 124) (show (Int.toNat ((15 + (11 * ((t : Nat) : Int))) + 4)) = (19 + 11 * t) by omega)).trans (hRT.1.2 t (by omega)).2.2.1) ((congrArg (h 124) (show (Int.toNat ((15 + (11 * ((t : Nat) : Int))) + 2)) = (17 + 11 * t) by omega)).trans (hRT.1.2 t (by omega)).2.1) (hRT.2.1 _ (by omega)) hRT.1.1.1 (show 0 ≤ ((t : Nat) : Int) ∧ ((t : Nat) : Int) ≤ 11 by omega) (show 0 ≤ ((i : Nat) : Int) ∧ ((i : Nat) : Int) ≤ 3 by omega) (show 0 ≤ (T 6 t) ∧ (T 6 t) ≤ 1559 by omega) (show 0 ≤ (T 9 (4 * t + i) - T 6 t) ∧ (T 9 (4 * t + i) - T 6 t) ≤ 1000 by omega) (show 1 ≤ (T 4 t) ∧ (T 4 t) ≤ 600 by omega) (show 0 ≤ (T 3 t) ∧ (T 3 t) ≤ 5 by omega) (show 0 ≤ (T 1 (Int.toNat (T 3 t))) ∧ (T 1 (Int.toNat (T 3 t))) ≤ 99 by omega) (show 0 ≤ ((m : Nat) : Int) ∧ ((m : Nat) : Int) ≤ 5000 by omega) ?_)
        show Aj γ mX9_mayTake d 0 0 Post 51 [(9, vI (T 8 (4 * t + i))), (8, vI ((i : Nat) : Int)), (4, vI (mnT T (WT 0 T) t (m : Int) i)), (5, vI (mnT T (WT 1 T) t (m : Int) i)), (6, vI (mcF (dmT T (WT 2 T) t (m : Int) i))), (7, vI (T 3 t)), (0, vA 123), (1, vI ((t : Nat) : Int)), (2, vI ((s : Nat) : Int)), (3, vI ((m : Nat) : Int))] [vI (arrF ((T 6 t) + (T 9 (4 * t + i) - T 6 t)) ((m : Nat) : Int) (T 4 t) (T 3 t) (T 0 0) (T 1 (Int.toNat (T 3 t))))] (mk h τ)
        rw [show (arrF ((T 6 t) + (T 9 (4 * t + i) - T 6 t)) ((m : Nat) : Int) (T 4 t) (T 3 t) (T 0 0) (T 1 (Int.toNat (T 3 t)))) = (arT T t i ((m : Nat) : Int)) by unfold arT; rw [show T 6 t + (T 9 (4 * t + i) - T 6 t) = T 9 (4 * t + i) by omega]]
        show Aj γ mX9_mayTake d 0 0 Post 51 [(9, vI (T 8 (4 * t + i))), (8, vI ((i : Nat) : Int)), (4, vI (mnT T (WT 0 T) t (m : Int) i)), (5, vI (mnT T (WT 1 T) t (m : Int) i)), (6, vI (mcF (dmT T (WT 2 T) t (m : Int) i))), (7, vI (T 3 t)), (0, vA 123), (1, vI ((t : Nat) : Int)), (2, vI ((s : Nat) : Int)), (3, vI ((m : Nat) : Int))] [vI (arT T t i ((m : Nat) : Int))] (mk h τ)
        refine a_istore (lv' := [(10, vI (arT T t i ((m : Nat) : Int))), (9, vI (T 8 (4 * t + i))), (8, vI ((i : Nat) : Int)), (4, vI (mnT T (WT 0 T) t (m : Int) i)), (5, vI (mnT T (WT 1 T) t (m : Int) i)), (6, vI (mcF (dmT T (WT 2 T) t (m : Int) i))), (7, vI (T 3 t)), (0, vA 123), (1, vI ((t : Nat) : Int)), (2, vI ((s : Nat) : Int)), (3, vI ((m : Nat) : Int))]) dX9_mayTake_51 (by decide) rfl ?_
        refine a_iload (j := 3) dX9_mayTake_53 rfl ?_
        refine a_iload (j := 1) dX9_mayTake_55 rfl ?_
        refine a_aload_n (j := 7) dX9_mayTake_57 rfl rfl (Nat.le_of_ble_eq_true rfl) ?_
        refine a_iload (j := 6) dX9_mayTake_58 rfl ?_
        refine a_iload (j := 0) dX9_mayTake_60 rfl ?_
        refine b_callV (d' := d - 1) (mc' := 0) (ms' := 0) (mc1 := 0) (ms1 := 0) (st := [vI (T 8 (4 * t + i)), vI (mnT T (WT 0 T) t (m : Int) i)]) (b := 123) [vI (T 3 t), vI (arT T t i ((m : Nat) : Int))] dX9_mayTake_62 mwX9_meanAt lkX9_206 (by decide) rfl rc_X9 rfl (Nat.le_of_ble_eq_true rfl) (by omega) rfl rfl (c_X9_meanAtW (T := T) (lo := ((m : Int) + 1)) (by omega) hT hRT hC (by omega) (by omega) (by omega) ?_)
        show Aj γ mX9_mayTake d 0 0 Post 65 [(10, vI (arT T t i ((m : Nat) : Int))), (9, vI (T 8 (4 * t + i))), (8, vI ((i : Nat) : Int)), (4, vI (mnT T (WT 0 T) t (m : Int) i)), (5, vI (mnT T (WT 1 T) t (m : Int) i)), (6, vI (mcF (dmT T (WT 2 T) t (m : Int) i))), (7, vI (T 3 t)), (0, vA 123), (1, vI ((t : Nat) : Int)), (2, vI ((s : Nat) : Int)), (3, vI ((m : Nat) : Int))] [vI (WT 0 T (T 3 t) (arT T t i ((m : Nat) : Int))), vI (T 8 (4 * t + i)), vI (mnT T (WT 0 T) t (m : Int) i)] (mk h τ)
        refine a_imul (z := ((T 8 (4 * t + i)) * (WT 0 T (T 3 t) (arT T t i ((m : Nat) : Int))))) dX9_mayTake_65 (w_ok (by omega) (by omega)) ?_
        refine a_iadd (z := ((mnT T (WT 0 T) t (m : Int) i) + ((T 8 (4 * t + i)) * (WT 0 T (T 3 t) (arT T t i ((m : Nat) : Int)))))) dX9_mayTake_66 (w_ok (by omega) (by omega)) ?_
        refine a_istore (lv' := [(4, vI ((mnT T (WT 0 T) t (m : Int) i) + ((T 8 (4 * t + i)) * (WT 0 T (T 3 t) (arT T t i ((m : Nat) : Int)))))), (10, vI (arT T t i ((m : Nat) : Int))), (9, vI (T 8 (4 * t + i))), (8, vI ((i : Nat) : Int)), (5, vI (mnT T (WT 1 T) t (m : Int) i)), (6, vI (mcF (dmT T (WT 2 T) t (m : Int) i))), (7, vI (T 3 t)), (0, vA 123), (1, vI ((t : Nat) : Int)), (2, vI ((s : Nat) : Int)), (3, vI ((m : Nat) : Int))]) dX9_mayTake_67 (by decide) rfl ?_
        refine a_iload (j := 4) dX9_mayTake_69 rfl ?_
        refine a_iload (j := 2) dX9_mayTake_71 rfl ?_
        refine a_aload_n (j := 7) dX9_mayTake_73 rfl rfl (Nat.le_of_ble_eq_true rfl) ?_
        refine a_iload (j := 6) dX9_mayTake_74 rfl ?_
        refine a_iload (j := 1) dX9_mayTake_76 rfl ?_
        refine b_callV (d' := d - 1) (mc' := 0) (ms' := 0) (mc1 := 0) (ms1 := 0) (st := [vI (T 8 (4 * t + i)), vI (mnT T (WT 1 T) t (m : Int) i)]) (b := 123) [vI (T 3 t), vI (arT T t i ((m : Nat) : Int))] dX9_mayTake_78 mwX9_sureAt lkX9_209 (by decide) rfl rc_X9 rfl (Nat.le_of_ble_eq_true rfl) (by omega) rfl rfl (c_X9_sureAtW (T := T) (lo := ((m : Int) + 1)) (by omega) hT hRT hC (by omega) (by omega) (by omega) ?_)
        show Aj γ mX9_mayTake d 0 0 Post 81 [(4, vI ((mnT T (WT 0 T) t (m : Int) i) + ((T 8 (4 * t + i)) * (WT 0 T (T 3 t) (arT T t i ((m : Nat) : Int)))))), (10, vI (arT T t i ((m : Nat) : Int))), (9, vI (T 8 (4 * t + i))), (8, vI ((i : Nat) : Int)), (5, vI (mnT T (WT 1 T) t (m : Int) i)), (6, vI (mcF (dmT T (WT 2 T) t (m : Int) i))), (7, vI (T 3 t)), (0, vA 123), (1, vI ((t : Nat) : Int)), (2, vI ((s : Nat) : Int)), (3, vI ((m : Nat) : Int))] [vI (WT 1 T (T 3 t) (arT T t i ((m : Nat) : Int))), vI (T 8 (4 * t + i)), vI (mnT T (WT 1 T) t (m : Int) i)] (mk h τ)
        refine a_imul (z := ((T 8 (4 * t + i)) * (WT 1 T (T 3 t) (arT T t i ((m : Nat) : Int))))) dX9_mayTake_81 (w_ok (by omega) (by omega)) ?_
        refine a_iadd (z := ((mnT T (WT 1 T) t (m : Int) i) + ((T 8 (4 * t + i)) * (WT 1 T (T 3 t) (arT T t i ((m : Nat) : Int)))))) dX9_mayTake_82 (w_ok (by omega) (by omega)) ?_
        refine a_istore (lv' := [(5, vI ((mnT T (WT 1 T) t (m : Int) i) + ((T 8 (4 * t + i)) * (WT 1 T (T 3 t) (arT T t i ((m : Nat) : Int)))))), (4, vI ((mnT T (WT 0 T) t (m : Int) i) + ((T 8 (4 * t + i)) * (WT 0 T (T 3 t) (arT T t i ((m : Nat) : Int)))))), (10, vI (arT T t i ((m : Nat) : Int))), (9, vI (T 8 (4 * t + i))), (8, vI ((i : Nat) : Int)), (6, vI (mcF (dmT T (WT 2 T) t (m : Int) i))), (7, vI (T 3 t)), (0, vA 123), (1, vI ((t : Nat) : Int)), (2, vI ((s : Nat) : Int)), (3, vI ((m : Nat) : Int))]) dX9_mayTake_83 (by decide) rfl ?_
        refine a_aload_n (j := 7) dX9_mayTake_85 rfl rfl (Nat.le_of_ble_eq_true rfl) ?_
        refine a_iload (j := 6) dX9_mayTake_86 rfl ?_
        refine a_iload (j := 2) dX9_mayTake_88 rfl ?_
        refine b_callV (d' := d - 1) (mc' := 0) (ms' := 0) (mc1 := 0) (ms1 := 0) (st := []) (b := 123) [vI (T 3 t), vI (arT T t i ((m : Nat) : Int))] dX9_mayTake_90 mwX9_cheapAt lkX9_212 (by decide) rfl rc_X9 rfl (Nat.le_of_ble_eq_true rfl) (by omega) rfl rfl (c_X9_cheapAtW (T := T) (lo := ((m : Int) + 1)) (by omega) hT hRT hC (by omega) (by omega) (by omega) ?_)
        show Aj γ mX9_mayTake d 0 0 Post 93 [(5, vI ((mnT T (WT 1 T) t (m : Int) i) + ((T 8 (4 * t + i)) * (WT 1 T (T 3 t) (arT T t i ((m : Nat) : Int)))))), (4, vI ((mnT T (WT 0 T) t (m : Int) i) + ((T 8 (4 * t + i)) * (WT 0 T (T 3 t) (arT T t i ((m : Nat) : Int)))))), (10, vI (arT T t i ((m : Nat) : Int))), (9, vI (T 8 (4 * t + i))), (8, vI ((i : Nat) : Int)), (6, vI (mcF (dmT T (WT 2 T) t (m : Int) i))), (7, vI (T 3 t)), (0, vA 123), (1, vI ((t : Nat) : Int)), (2, vI ((s : Nat) : Int)), (3, vI ((m : Nat) : Int))] [vI (mcF (WT 2 T (T 3 t) (arT T t i ((m : Nat) : Int))))] (mk h τ)
        refine a_iload (j := 5) dX9_mayTake_93 rfl ?_
        refine a_icmp_le (tgt := 109) dX9_mayTake_95 (by decide) (fun c95_66 => ?_) (fun c95_66 => ?_)
        · refine a_iload (j := 5) dX9_mayTake_109 rfl ?_
          refine a_istore (lv' := [(6, vI (mcF (dmT T (WT 2 T) t (m : Int) i))), (5, vI ((mnT T (WT 1 T) t (m : Int) i) + ((T 8 (4 * t + i)) * (WT 1 T (T 3 t) (arT T t i ((m : Nat) : Int)))))), (4, vI ((mnT T (WT 0 T) t (m : Int) i) + ((T 8 (4 * t + i)) * (WT 0 T (T 3 t) (arT T t i ((m : Nat) : Int)))))), (10, vI (arT T t i ((m : Nat) : Int))), (9, vI (T 8 (4 * t + i))), (8, vI ((i : Nat) : Int)), (7, vI (T 3 t)), (0, vA 123), (1, vI ((t : Nat) : Int)), (2, vI ((s : Nat) : Int)), (3, vI ((m : Nat) : Int))]) dX9_mayTake_111 (by decide) rfl ?_
          refine a_iinc (j := 5) (z' := ((i + 1 : Nat) : Int)) (lv' := [(8, vI ((i + 1 : Nat) : Int)), (6, vI (mcF (dmT T (WT 2 T) t (m : Int) i))), (5, vI ((mnT T (WT 1 T) t (m : Int) i) + ((T 8 (4 * t + i)) * (WT 1 T (T 3 t) (arT T t i ((m : Nat) : Int)))))), (4, vI ((mnT T (WT 0 T) t (m : Int) i) + ((T 8 (4 * t + i)) * (WT 0 T (T 3 t) (arT T t i ((m : Nat) : Int)))))), (10, vI (arT T t i ((m : Nat) : Int))), (9, vI (T 8 (4 * t + i))), (7, vI (T 3 t)), (0, vA 123), (1, vI ((t : Nat) : Int)), (2, vI ((s : Nat) : Int)), (3, vI ((m : Nat) : Int))]) dX9_mayTake_113 rfl (w_okN (by omega) (by omega) (by omega)) (by decide) rfl ?_
          refine a_goto (tgt := 20) dX9_mayTake_116 (by decide) ?_
          have e4 : mnT T (WT 0 T) t (m : Int) (i + 1) = ((mnT T (WT 0 T) t (m : Int) i) + ((T 8 (4 * t + i)) * (WT 0 T (T 3 t) (arT T t i ((m : Nat) : Int))))) := rfl
          have e5 : mnT T (WT 1 T) t (m : Int) (i + 1) = ((mnT T (WT 1 T) t (m : Int) i) + ((T 8 (4 * t + i)) * (WT 1 T (T 3 t) (arT T t i ((m : Nat) : Int))))) := rfl
          have e6 : mcF (dmT T (WT 2 T) t (m : Int) (i + 1)) = (mcF (dmT T (WT 2 T) t (m : Int) i)) := by
            rw [dm_s, if_neg (by omega), mc_mx (by omega) (by omega)]; first | (rw [if_pos (by omega)]; done) | (rw [if_neg (by omega)]; done) | (exfalso; omega)
          have q := ih (i + 1) (by omega) (by omega)
          rw [e4, e5, e6] at q
          exact a_lv (lv' := [(8, vI (((i + 1) : Nat) : Int)), (4, vI ((mnT T (WT 0 T) t (m : Int) i) + ((T 8 (4 * t + i)) * (WT 0 T (T 3 t) (arT T t i ((m : Nat) : Int)))))), (5, vI ((mnT T (WT 1 T) t (m : Int) i) + ((T 8 (4 * t + i)) * (WT 1 T (T 3 t) (arT T t i ((m : Nat) : Int)))))), (6, vI (mcF (dmT T (WT 2 T) t (m : Int) i))), (7, vI (T 3 t)), (0, vA 123), (1, vI ((t : Nat) : Int)), (2, vI ((s : Nat) : Int)), (3, vI ((m : Nat) : Int))]) (by intro q hq; simp only [List.mem_cons, List.not_mem_nil, or_false] at hq ⊢; rcases hq with rfl | rfl | rfl | rfl | rfl | rfl | rfl | rfl | rfl <;> simp) q
        · refine a_aload_n (j := 7) dX9_mayTake_98 rfl rfl (Nat.le_of_ble_eq_true rfl) ?_
          refine a_iload (j := 6) dX9_mayTake_99 rfl ?_
          refine a_iload (j := 2) dX9_mayTake_101 rfl ?_
          refine b_callV (d' := d - 1) (mc' := 0) (ms' := 0) (mc1 := 0) (ms1 := 0) (st := []) (b := 123) [vI (T 3 t), vI (arT T t i ((m : Nat) : Int))] dX9_mayTake_103 mwX9_cheapAt lkX9_212 (by decide) rfl rc_X9 rfl (Nat.le_of_ble_eq_true rfl) (by omega) rfl rfl (c_X9_cheapAtW (T := T) (lo := ((m : Int) + 1)) (by omega) hT hRT hC (by omega) (by omega) (by omega) ?_)
          show Aj γ mX9_mayTake d 0 0 Post 106 [(5, vI ((mnT T (WT 1 T) t (m : Int) i) + ((T 8 (4 * t + i)) * (WT 1 T (T 3 t) (arT T t i ((m : Nat) : Int)))))), (4, vI ((mnT T (WT 0 T) t (m : Int) i) + ((T 8 (4 * t + i)) * (WT 0 T (T 3 t) (arT T t i ((m : Nat) : Int)))))), (10, vI (arT T t i ((m : Nat) : Int))), (9, vI (T 8 (4 * t + i))), (8, vI ((i : Nat) : Int)), (6, vI (mcF (dmT T (WT 2 T) t (m : Int) i))), (7, vI (T 3 t)), (0, vA 123), (1, vI ((t : Nat) : Int)), (2, vI ((s : Nat) : Int)), (3, vI ((m : Nat) : Int))] [vI (mcF (WT 2 T (T 3 t) (arT T t i ((m : Nat) : Int))))] (mk h τ)
          refine a_goto (tgt := 111) dX9_mayTake_106 (by decide) ?_
          refine a_istore (lv' := [(6, vI (mcF (WT 2 T (T 3 t) (arT T t i ((m : Nat) : Int))))), (5, vI ((mnT T (WT 1 T) t (m : Int) i) + ((T 8 (4 * t + i)) * (WT 1 T (T 3 t) (arT T t i ((m : Nat) : Int)))))), (4, vI ((mnT T (WT 0 T) t (m : Int) i) + ((T 8 (4 * t + i)) * (WT 0 T (T 3 t) (arT T t i ((m : Nat) : Int)))))), (10, vI (arT T t i ((m : Nat) : Int))), (9, vI (T 8 (4 * t + i))), (8, vI ((i : Nat) : Int)), (7, vI (T 3 t)), (0, vA 123), (1, vI ((t : Nat) : Int)), (2, vI ((s : Nat) : Int)), (3, vI ((m : Nat) : Int))]) dX9_mayTake_111 (by decide) rfl ?_
          refine a_iinc (j := 5) (z' := ((i + 1 : Nat) : Int)) (lv' := [(8, vI ((i + 1 : Nat) : Int)), (6, vI (mcF (WT 2 T (T 3 t) (arT T t i ((m : Nat) : Int))))), (5, vI ((mnT T (WT 1 T) t (m : Int) i) + ((T 8 (4 * t + i)) * (WT 1 T (T 3 t) (arT T t i ((m : Nat) : Int)))))), (4, vI ((mnT T (WT 0 T) t (m : Int) i) + ((T 8 (4 * t + i)) * (WT 0 T (T 3 t) (arT T t i ((m : Nat) : Int)))))), (10, vI (arT T t i ((m : Nat) : Int))), (9, vI (T 8 (4 * t + i))), (7, vI (T 3 t)), (0, vA 123), (1, vI ((t : Nat) : Int)), (2, vI ((s : Nat) : Int)), (3, vI ((m : Nat) : Int))]) dX9_mayTake_113 rfl (w_okN (by omega) (by omega) (by omega)) (by decide) rfl ?_
          refine a_goto (tgt := 20) dX9_mayTake_116 (by decide) ?_
          have e4 : mnT T (WT 0 T) t (m : Int) (i + 1) = ((mnT T (WT 0 T) t (m : Int) i) + ((T 8 (4 * t + i)) * (WT 0 T (T 3 t) (arT T t i ((m : Nat) : Int))))) := rfl
          have e5 : mnT T (WT 1 T) t (m : Int) (i + 1) = ((mnT T (WT 1 T) t (m : Int) i) + ((T 8 (4 * t + i)) * (WT 1 T (T 3 t) (arT T t i ((m : Nat) : Int))))) := rfl
          have e6 : mcF (dmT T (WT 2 T) t (m : Int) (i + 1)) = (mcF (WT 2 T (T 3 t) (arT T t i ((m : Nat) : Int)))) := by
            rw [dm_s, if_neg (by omega), mc_mx (by omega) (by omega)]; first | (rw [if_pos (by omega)]; done) | (rw [if_neg (by omega)]; done) | (exfalso; omega)
          have q := ih (i + 1) (by omega) (by omega)
          rw [e4, e5, e6] at q
          exact a_lv (lv' := [(8, vI (((i + 1) : Nat) : Int)), (4, vI ((mnT T (WT 0 T) t (m : Int) i) + ((T 8 (4 * t + i)) * (WT 0 T (T 3 t) (arT T t i ((m : Nat) : Int)))))), (5, vI ((mnT T (WT 1 T) t (m : Int) i) + ((T 8 (4 * t + i)) * (WT 1 T (T 3 t) (arT T t i ((m : Nat) : Int)))))), (6, vI (mcF (WT 2 T (T 3 t) (arT T t i ((m : Nat) : Int))))), (7, vI (T 3 t)), (0, vA 123), (1, vI ((t : Nat) : Int)), (2, vI ((s : Nat) : Int)), (3, vI ((m : Nat) : Int))]) (by intro q hq; simp only [List.mem_cons, List.not_mem_nil, or_false] at hq ⊢; rcases hq with rfl | rfl | rfl | rfl | rfl | rfl | rfl | rfl | rfl <;> simp) q
theorem c_X9_mayTake {γ : GT} {d : Nat} {T : Nat → Nat → Int} {t s m : Nat} {h : Nat → Nat → Int} {τ : List AC} {Post : Option AV → List AC → Prop} (hd : 2 ≤ d) (hT : tOK T) (hRT : RT h T) (ht : (t : Int) < T 0 2) (hs2 : T 2 t = (s : Int)) (hs3 : (s : Int) < T 0 3) (hm : m < 1600) (hl : (m : Int) ≤ lsT T t) (hC : CWf h T ((m : Int) + 1)) (hB : CBt h T s m t) (kQ : ∀ h', Fr [133, 134, 135, 136] h h' → O4 h h' (1600 * s + m) → CBt h' T s m (t + 1) → Post none (mk h' τ)) : Cj γ mX9_mayTake d 0 0 [vA 123, vI ((t : Nat) : Int), vI ((s : Nat) : Int), vI ((m : Nat) : Int)] (mk h τ) Post := by
  have h2_ := hT.2.2.1
  refine c_of (by decide) (Nat.le_of_ble_eq_true rfl) ?_
  show Aj γ mX9_mayTake d 0 0 Post 0 [(0, vA 123), (1, vI ((t : Nat) : Int)), (2, vI ((s : Nat) : Int)), (3, vI ((m : Nat) : Int))] [] (mk h τ)
  refine a_iconst dX9_mayTake_0 ⟨by decide, by decide⟩ ?_
  refine a_istore (lv' := [(4, vI 0), (0, vA 123), (1, vI ((t : Nat) : Int)), (2, vI ((s : Nat) : Int)), (3, vI ((m : Nat) : Int))]) dX9_mayTake_1 (by decide) rfl ?_
  refine a_iconst dX9_mayTake_3 ⟨by decide, by decide⟩ ?_
  refine a_istore (lv' := [(5, vI 0), (4, vI 0), (0, vA 123), (1, vI ((t : Nat) : Int)), (2, vI ((s : Nat) : Int)), (3, vI ((m : Nat) : Int))]) dX9_mayTake_4 (by decide) rfl ?_
  refine a_iconst dX9_mayTake_6 ⟨by decide, by decide⟩ ?_
  refine a_istore (lv' := [(6, vI 0), (5, vI 0), (4, vI 0), (0, vA 123), (1, vI ((t : Nat) : Int)), (2, vI ((s : Nat) : Int)), (3, vI ((m : Nat) : Int))]) dX9_mayTake_7 (by decide) rfl ?_
  refine a_aload_n (j := 3) dX9_mayTake_9 rfl rfl (Nat.le_of_ble_eq_true rfl) ?_
  refine a_iload_n (j := 4) dX9_mayTake_10 rfl rfl ?_
  refine a_iconst dX9_mayTake_11 ⟨by decide, by decide⟩ ?_
  refine b_callV (d' := d - 1) (mc' := 0) (ms' := 0) (mc1 := 0) (ms1 := 0) (st := []) (b := 123) [vI ((t : Nat) : Int), vI 2] dX9_mayTake_12 mwX9_of lkX9_107 (by decide) rfl rc_X9 rfl (Nat.le_of_ble_eq_true rfl) (by omega) rfl rfl (c_X9_of (v1 := (T 3 t)) (by omega)  ((congrArg (h 124) (show (Int.toNat ((15 + (11 * ((t : Nat) : Int))) + 2)) = (17 + 11 * t) by omega)).trans (hRT.1.2 t (by omega)).2.1) (show 0 ≤ ((t : Nat) : Int) ∧ ((t : Nat) : Int) ≤ 11 ∧ 0 ≤ 2 ∧ 2 ≤ 10 by omega) ?_)
  show Aj γ mX9_mayTake d 0 0 Post 15 [(6, vI 0), (5, vI 0), (4, vI 0), (0, vA 123), (1, vI ((t : Nat) : Int)), (2, vI ((s : Nat) : Int)), (3, vI ((m : Nat) : Int))] [vI (T 3 t)] (mk h τ)
  refine a_istore (lv' := [(7, vI (T 3 t)), (6, vI 0), (5, vI 0), (4, vI 0), (0, vA 123), (1, vI ((t : Nat) : Int)), (2, vI ((s : Nat) : Int)), (3, vI ((m : Nat) : Int))]) dX9_mayTake_15 (by decide) rfl ?_
  refine a_iconst dX9_mayTake_17 ⟨by decide, by decide⟩ ?_
  refine a_istore (lv' := [(8, vI 0), (7, vI (T 3 t)), (6, vI 0), (5, vI 0), (4, vI 0), (0, vA 123), (1, vI ((t : Nat) : Int)), (2, vI ((s : Nat) : Int)), (3, vI ((m : Nat) : Int))]) dX9_mayTake_18 (by decide) rfl ?_
  exact a_lv (lv' := [(8, vI ((0 : Nat) : Int)), (4, vI 0), (5, vI 0), (6, vI 0), (7, vI (T 3 t)), (0, vA 123), (1, vI ((t : Nat) : Int)), (2, vI ((s : Nat) : Int)), (3, vI ((m : Nat) : Int))]) (by intro q hq; simp only [List.mem_cons, List.not_mem_nil, or_false] at hq ⊢; rcases hq with rfl | rfl | rfl | rfl | rfl | rfl | rfl | rfl | rfl <;> simp) (l_mayTake hd hT hRT ht hs2 hs3 hm hl hC hB kQ 5 0 (by omega) (by omega))
