/-! WHAT BOTH SIDES KEEP WORKED OUT -/
/-- the first of lo .. hi - 1 with p (none: NONE) -/
def FND (p : Nat → Prop) (lo hi : Nat) (r : Int) : Prop := (r = -1000000005 ∧ ∀ k, lo ≤ k → k < hi → ¬ p k) ∨ ∃ k : Nat, r = (k : Int) ∧ lo ≤ k ∧ k < hi ∧ p k ∧ ∀ j, lo ≤ j → j < k → ¬ p j
theorem FND_u {p : Nat → Prop} {lo hi : Nat} {r r' : Int} (h : FND p lo hi r) (h' : FND p lo hi r') : r = r' := by
  rcases h with ⟨e, a⟩ | ⟨k, e, a, b, c, f⟩
  · rcases h' with ⟨e', _⟩ | ⟨k', _, a', b', c', _⟩
    · rw [e, e']
    · exact absurd c' (a k' a' b')
  · rcases h' with ⟨_, a'⟩ | ⟨k', e', a', b', c', f'⟩
    · exact absurd c (a' k a b)
    · rcases Nat.lt_trichotomy k k' with q | q | q
      · exact absurd c (f' k a q)
      · rw [e, e', q]
      · exact absurd c' (f k' a' q)
noncomputable def fndV (p : Nat → Prop) (lo hi : Nat) : Int := Classical.epsilon (fun r => FND p lo hi r)
theorem fnd_eq {p : Nat → Prop} {lo hi : Nat} {r : Int} (h : FND p lo hi r) : fndV p lo hi = r := FND_u (Classical.epsilon_spec (p := fun r => FND p lo hi r) ⟨r, h⟩) h
theorem fnd_at {p : Nat → Prop} {lo hi k : Nat} (h1 : lo ≤ k) (h2 : k < hi) (h3 : p k) (h4 : ∀ j, lo ≤ j → j < k → ¬ p j) : fndV p lo hi = (k : Int) := fnd_eq (Or.inr ⟨k, rfl, h1, h2, h3, h4⟩)
theorem fnd_no {p : Nat → Prop} {lo hi : Nat} (h4 : ∀ j, lo ≤ j → j < hi → ¬ p j) : fndV p lo hi = -1000000005 := fnd_eq (Or.inl ⟨rfl, h4⟩)
theorem fnd_c {p : Nat → Prop} {hi : Nat} : ∀ {f lo : Nat}, hi ≤ lo + f → FND p lo hi (fndV p lo hi) := by
  intro f
  induction f with
  | zero => intro lo h; rw [fnd_no (fun j a b => by omega)]; exact Or.inl ⟨rfl, fun j a b => by omega⟩
  | succ f ih =>
    intro lo h
    by_cases c : hi ≤ lo
    · rw [fnd_no (fun j a b => by omega)]; exact Or.inl ⟨rfl, fun j a b => by omega⟩
    · rcases Classical.em (p lo) with q | q
      · rw [fnd_at (Nat.le_refl lo) (by omega) q (fun j a b => by omega)]
        exact Or.inr ⟨lo, rfl, Nat.le_refl lo, by omega, q, fun j a b => by omega⟩
      · rcases ih (lo := lo + 1) (by omega) with ⟨e, a⟩ | ⟨k, e, a, b, c2, f2⟩
        · have hno : ∀ j, lo ≤ j → j < hi → ¬ p j := fun j a1 a2 => by
            by_cases cj : j = lo
            · rw [cj]; exact q
            · exact a j (by omega) a2
          rw [fnd_no hno]; exact Or.inl ⟨rfl, hno⟩
        · have hfi : ∀ j, lo ≤ j → j < k → ¬ p j := fun j a1 a2 => by
            by_cases cj : j = lo
            · rw [cj]; exact q
            · exact f2 j (by omega) a2
          rw [fnd_at (by omega) b c2 hfi]; exact Or.inr ⟨k, rfl, by omega, b, c2, hfi⟩
theorem fnd_s {p : Nat → Prop} {lo hi : Nat} (h : ¬ p lo) : fndV p lo hi = fndV p (lo + 1) hi := by
  have q := fnd_c (p := p) (hi := hi) (f := hi) (lo := lo + 1) (by omega)
  apply fnd_eq
  rcases q with ⟨e, a⟩ | ⟨k, e, a, b, c2, f2⟩
  · refine Or.inl ⟨e, fun j a1 a2 => ?_⟩
    by_cases cj : j = lo
    · rw [cj]; exact h
    · exact a j (by omega) a2
  · refine Or.inr ⟨k, e, by omega, b, c2, fun j a1 a2 => ?_⟩
    by_cases cj : j = lo
    · rw [cj]; exact h
    · exact f2 j (by omega) a2
theorem fnd_0 {p : Nat → Prop} {lo hi : Nat} (h : hi ≤ lo) : fndV p lo hi = -1000000005 := fnd_no (fun j a b => by omega)
theorem fnd_h {p : Nat → Prop} {lo hi : Nat} (h1 : lo < hi) (h : p lo) : fndV p lo hi = (lo : Int) := fnd_at (Nat.le_refl lo) h1 h (fun j a b => by omega)
/-- a row with plan and guests -/
def NX (N : Nat → Int) : Prop := NV N ∧ (0 ≤ N 7 ∧ N 7 ≤ 6) ∧ (∀ k : Nat, (k : Int) < N 7 → 0 ≤ N (147 + k) ∧ N (147 + k) < N 5) ∧ (0 ≤ N 8 ∧ N 8 ≤ 10) ∧ ∀ g : Nat, (g : Int) < N 8 → (0 ≤ N (153 + 2 * g) ∧ N (153 + 2 * g) < N 4) ∧ 0 ≤ N (153 + 2 * g + 1) ∧ N (153 + 2 * g + 1) ≤ 1439
def CCt (h T : Nat → Nat → Int) (st : Int) : Prop := (h 63 0 = st → TT h T) ∧ (h 78 2 = st → CHp h 78 0 T (plT T 0)) ∧ (h 80 2 = st → CHp h 80 1 T (plT T 0)) ∧ (h 82 2 = st → CHp h 82 2 T (plT T 0))
def CCs (h : Nat → Nat → Int) : Prop := (h 78 0 = 0 ∧ h 80 0 = 1 ∧ h 82 0 = 2) ∧ ((h 63 17 = 76 ∧ h 63 18 = 77) ∨ (h 63 17 = 77 ∧ h 63 18 = 76))
def CCr (h : Nat → Nat → Int) : Prop := (0 ≤ h 1 0 ∧ h 1 0 ≤ h 0 3) ∧ (0 ≤ h 32 0 ∧ h 32 0 ≤ h 0 3) ∧ h 63 0 ≤ h 0 3 ∧ h 78 2 ≤ h 0 3 ∧ h 80 2 ≤ h 0 3 ∧ h 82 2 ≤ h 0 3
def CC (h : Nat → Nat → Int) (N J : Nat → Int) : Prop := CCt h (tt N) (h 1 0) ∧ (h 0 2 = 1 → CCt h (tt J) (h 32 0)) ∧ CCs h ∧ (h 0 2 = 1 → h 1 0 = h 32 0 → tt N = tt J) ∧ CCr h
def RC (h : Nat → Nat → Int) (N : Nat → Int) : Prop := (h 123 4 = 0 ∨ h 123 4 = 1) ∧ (h 123 4 = 1 → KA h (tt N)) ∧ dlB h
def K3 (h h' : Nat → Nat → Int) : Prop := ∀ k, k ≠ 4 → k ≠ 9 → k ≠ 34 → h' 123 k = h 123 k
theorem K3_r {h : Nat → Nat → Int} : K3 h h := fun _ _ _ _ => rfl
theorem K3_t {h h' h'' : Nat → Nat → Int} (a : K3 h h') (b : K3 h' h'') : K3 h h'' := fun k x y z => (b k x y z).trans (a k x y z)
theorem CC_new {h h' : Nat → Nat → Int} {N J : Nat → Int} (hF : Fr [63, 64, 65, 66, 67, 68, 69, 70, 71, 72, 73, 74, 75, 76, 77, 78, 79, 80, 81, 82, 83] h h') (hC : CC h N J) (q1 : (h' 63 0 = h 63 0 ∧ ∀ T, TT h T → TT h' T) ∨ (h' 63 0 = h 1 0 ∧ TT h' (tt N))) (qs : CCs h')
    (q2 : (h' 78 2 = h 78 2 ∧ h' 79 = h 79) ∨ (h' 78 2 = h 1 0 ∧ CHp h' 78 0 (tt N) (plT (tt N) 0)))
    (q3 : (h' 80 2 = h 80 2 ∧ h' 81 = h 81) ∨ (h' 80 2 = h 1 0 ∧ CHp h' 80 1 (tt N) (plT (tt N) 0)))
    (q4 : (h' 82 2 = h 82 2 ∧ h' 83 = h 83) ∨ (h' 82 2 = h 1 0 ∧ CHp h' 82 2 (tt N) (plT (tt N) 0))) : CC h' N J := by
  obtain ⟨c1, c2, c3, c4, c5⟩ := hC
  obtain ⟨r1, r2, r3, r4, r5, r6⟩ := c5
  have e1 : h' 1 = h 1 := hF 1 (by decide)
  have e0 : h' 0 = h 0 := hF 0 (by decide)
  have e32 : h' 32 = h 32 := hF 32 (by decide)
  unfold CC CCr
  rw [e1, e0, e32]
  have key : ∀ T st, CCt h T st → (h 1 0 = st → tt N = T) → CCt h' T st := by
    intro T st hc ht
    refine ⟨fun e => ?_, fun e => ?_, fun e => ?_, fun e => ?_⟩
    · rcases q1 with q | q
      · exact q.2 T (hc.1 (q.1.symm.trans e))
      · rw [← ht (q.1.symm.trans e)]; exact q.2
    · rcases q2 with q | q
      · exact CHp_fr q.2 (hc.2.1 (q.1.symm.trans e))
      · rw [← ht (q.1.symm.trans e)]; exact q.2
    · rcases q3 with q | q
      · exact CHp_fr q.2 (hc.2.2.1 (q.1.symm.trans e))
      · rw [← ht (q.1.symm.trans e)]; exact q.2
    · rcases q4 with q | q
      · exact CHp_fr q.2 (hc.2.2.2 (q.1.symm.trans e))
      · rw [← ht (q.1.symm.trans e)]; exact q.2
  refine ⟨key _ _ c1 (fun _ => rfl), fun k => key _ _ (c2 k) (fun e => c4 k e), qs, c4, r1, r2, ?_, ?_, ?_, ?_⟩
  · rcases q1 with q | q <;> omega
  · rcases q2 with q | q <;> omega
  · rcases q3 with q | q <;> omega
  · rcases q4 with q | q <;> omega
theorem CC_sw {h : Nat → Nat → Int} {N J : Nat → Int} (hk : h 0 2 = 1) (hC : CC h N J) : CCt h (tt J) (h 32 0) := hC.2.1 hk
theorem k_refresh {γ : GT} {d : Nat} {N J : Nat → Int} {h : Nat → Nat → Int} {τ : List AC} {Post : Option AV → List AC → Prop} (hd : 4 ≤ d) (hR : WR h τ 1 N) (hv : NV N) (hC : CC h N J) (kQ : ∀ h', Fr [63, 64, 65, 66, 67, 68, 69, 70, 71, 72, 73, 74, 75, 76, 77, 78, 79, 80, 81, 82, 83] h h' → CC h' N J → TT h' (tt N) → Post none (mk h' τ)) : Cj γ mX5_refresh d 0 0 [vA 63, vA 1] (mk h τ) Post := by
  refine c_X5_refresh hd (Or.inl rfl) hR hv hC.1.1 (fun h' hF a b c t => ?_)
  refine kQ h' (Fr_m (by decide) hF) (CC_new (Fr_m (by decide) hF) hC (Or.inr ⟨a, t⟩) ?_ (Or.inl ⟨Fr_v hF (by decide), hF 79 (by decide)⟩) (Or.inl ⟨Fr_v hF (by decide), hF 81 (by decide)⟩) (Or.inl ⟨Fr_v hF (by decide), hF 83 (by decide)⟩)) t
  have hs := hC.2.2.1
  exact ⟨by rw [hF 78 (by decide), hF 80 (by decide), hF 82 (by decide)]; exact hs.1, by rw [b, c]; exact hs.2⟩
theorem k_drawn_78 {γ : GT} {d : Nat} {N J : Nat → Int} {h : Nat → Nat → Int} {τ : List AC} {Post : Option AV → List AC → Prop} (hd : 5 ≤ d) (hR : WR h τ 1 N) (hv : NV N) (hC : CC h N J) (kQ : ∀ h', Fr [63, 64, 65, 66, 67, 68, 69, 70, 71, 72, 73, 74, 75, 76, 77, 78, 79, 80, 81, 82, 83] h h' → CC h' N J → TT h' (tt N) → CHp h' 78 0 (tt N) (plT (tt N) 0) → Post (some (vA 78)) (mk h' τ)) : Cj γ mX0_drawnFor d 0 0 [vA 78, vA 63, vA 1] (mk h τ) Post := by
  have hs := hC.2.2.1
  refine c_X0_drawnFor_78 (κ := 0) hd (Or.inl rfl) hR hv hs.1.1 rfl hC.1.1 hC.1.2.1 (fun h' hF a b c t e f g => ?_)
  refine kQ h' (Fr_m (by decide) hF) (CC_new (Fr_m (by decide) hF) hC (Or.inr ⟨a, t⟩) ⟨⟨e, (Fr_v hF (by decide)).trans hs.1.2.1, (Fr_v hF (by decide)).trans hs.1.2.2⟩, by rw [b, c]; exact hs.2⟩ (Or.inr ⟨f, g⟩) (Or.inl ⟨Fr_v hF (by decide), hF 81 (by decide)⟩) (Or.inl ⟨Fr_v hF (by decide), hF 83 (by decide)⟩)) t g
theorem k_drawn_80 {γ : GT} {d : Nat} {N J : Nat → Int} {h : Nat → Nat → Int} {τ : List AC} {Post : Option AV → List AC → Prop} (hd : 5 ≤ d) (hR : WR h τ 1 N) (hv : NV N) (hC : CC h N J) (kQ : ∀ h', Fr [63, 64, 65, 66, 67, 68, 69, 70, 71, 72, 73, 74, 75, 76, 77, 78, 79, 80, 81, 82, 83] h h' → CC h' N J → TT h' (tt N) → CHp h' 80 1 (tt N) (plT (tt N) 0) → Post (some (vA 80)) (mk h' τ)) : Cj γ mX0_drawnFor d 0 0 [vA 80, vA 63, vA 1] (mk h τ) Post := by
  have hs := hC.2.2.1
  refine c_X0_drawnFor_80 (κ := 1) hd (Or.inl rfl) hR hv hs.1.2.1 rfl hC.1.1 hC.1.2.2.1 (fun h' hF a b c t e f g => ?_)
  refine kQ h' (Fr_m (by decide) hF) (CC_new (Fr_m (by decide) hF) hC (Or.inr ⟨a, t⟩) ⟨⟨(Fr_v hF (by decide)).trans hs.1.1, e, (Fr_v hF (by decide)).trans hs.1.2.2⟩, by rw [b, c]; exact hs.2⟩ (Or.inl ⟨Fr_v hF (by decide), hF 79 (by decide)⟩) (Or.inr ⟨f, g⟩) (Or.inl ⟨Fr_v hF (by decide), hF 83 (by decide)⟩)) t g
theorem k_drawn_82 {γ : GT} {d : Nat} {N J : Nat → Int} {h : Nat → Nat → Int} {τ : List AC} {Post : Option AV → List AC → Prop} (hd : 5 ≤ d) (hR : WR h τ 1 N) (hv : NV N) (hC : CC h N J) (kQ : ∀ h', Fr [63, 64, 65, 66, 67, 68, 69, 70, 71, 72, 73, 74, 75, 76, 77, 78, 79, 80, 81, 82, 83] h h' → CC h' N J → TT h' (tt N) → CHp h' 82 2 (tt N) (plT (tt N) 0) → Post (some (vA 82)) (mk h' τ)) : Cj γ mX0_drawnFor d 0 0 [vA 82, vA 63, vA 1] (mk h τ) Post := by
  have hs := hC.2.2.1
  refine c_X0_drawnFor_82 (κ := 2) hd (Or.inl rfl) hR hv hs.1.2.2 rfl hC.1.1 hC.1.2.2.2 (fun h' hF a b c t e f g => ?_)
  refine kQ h' (Fr_m (by decide) hF) (CC_new (Fr_m (by decide) hF) hC (Or.inr ⟨a, t⟩) ⟨⟨(Fr_v hF (by decide)).trans hs.1.1, (Fr_v hF (by decide)).trans hs.1.2.1, e⟩, by rw [b, c]; exact hs.2⟩ (Or.inl ⟨Fr_v hF (by decide), hF 79 (by decide)⟩) (Or.inl ⟨Fr_v hF (by decide), hF 81 (by decide)⟩) (Or.inr ⟨f, g⟩)) t g
theorem CC_old {h h' : Nat → Nat → Int} {N J : Nat → Int} (hF : Fr [63, 64, 65, 66, 67, 68, 69, 70, 71, 72, 73, 74, 75, 76, 77, 78, 79, 80, 81, 82, 83] h h') (hk : h 0 2 = 1) (hC : CC h N J) (q1 : h' 63 0 = h 32 0 ∧ TT h' (tt J)) (qs : CCs h') (q2 : h' 78 2 = h 32 0 ∧ CHp h' 78 0 (tt J) (plT (tt J) 0)) (q3 : h' 80 2 = h 80 2 ∧ h' 81 = h 81) (q4 : h' 82 2 = h 82 2 ∧ h' 83 = h 83) : CC h' N J := by
  obtain ⟨c1, c2, c3, c4, c5⟩ := hC
  obtain ⟨r1, r2, r3, r4, r5, r6⟩ := c5
  have e1 : h' 1 = h 1 := hF 1 (by decide)
  have e0 : h' 0 = h 0 := hF 0 (by decide)
  have e32 : h' 32 = h 32 := hF 32 (by decide)
  unfold CC CCr
  rw [e1, e0, e32]
  have key : ∀ T st, CCt h T st → (h 32 0 = st → tt J = T) → CCt h' T st := by
    intro T st hc ht
    refine ⟨fun e => ?_, fun e => ?_, fun e => ?_, fun e => ?_⟩
    · rw [← ht (q1.1.symm.trans e)]; exact q1.2
    · rw [← ht (q2.1.symm.trans e)]; exact q2.2
    · exact CHp_fr q3.2 (hc.2.2.1 (q3.1.symm.trans e))
    · exact CHp_fr q4.2 (hc.2.2.2 (q4.1.symm.trans e))
  refine ⟨key _ _ c1 (fun e => (c4 hk e.symm).symm), fun k => key _ _ (c2 k) (fun _ => rfl), qs, c4, r1, r2, ?_, ?_, ?_, ?_⟩ <;> omega
theorem k_drawnK {γ : GT} {d : Nat} {N J : Nat → Int} {h : Nat → Nat → Int} {τ : List AC} {Post : Option AV → List AC → Prop} (hd : 5 ≤ d) (hk : h 0 2 = 1) (hR : WR h τ 32 J) (hv : NV J) (hC : CC h N J) (kQ : ∀ h', Fr [63, 64, 65, 66, 67, 68, 69, 70, 71, 72, 73, 74, 75, 76, 77, 78, 79, 80, 81, 82, 83] h h' → CC h' N J → TT h' (tt J) → CHp h' 78 0 (tt J) (plT (tt J) 0) → Post (some (vA 78)) (mk h' τ)) : Cj γ mX0_drawnFor d 0 0 [vA 78, vA 63, vA 32] (mk h τ) Post := by
  have hs := hC.2.2.1
  have h32 := hC.2.1 hk
  refine c_X0_drawnFor_78 (κ := 0) hd (Or.inr rfl) hR hv hs.1.1 rfl h32.1 h32.2.1 (fun h' hF a b c t e f g => ?_)
  refine kQ h' (Fr_m (by decide) hF) (CC_old (Fr_m (by decide) hF) hk hC ⟨a, t⟩ ⟨⟨e, (Fr_v hF (by decide)).trans hs.1.2.1, (Fr_v hF (by decide)).trans hs.1.2.2⟩, by rw [b, c]; exact hs.2⟩ ⟨f, g⟩ ⟨Fr_v hF (by decide), hF 81 (by decide)⟩ ⟨Fr_v hF (by decide), hF 83 (by decide)⟩) t g
theorem k_learns {γ : GT} {d : Nat} {N : Nat → Int} {h : Nat → Nat → Int} {τ : List AC} {Post : Option AV → List AC → Prop} (hd : 3 ≤ d) (hN : h 124 = N) (hv : NV N) (hC : RC h N) (kQ : ∀ h', Fr [123, 127, 128, 129, 130, 131, 132, 133, 134, 135, 136, 143, 144] h h' → K3 h h' → RC h' N → RT h' (tt N) → CWf h' (tt N) (h' 123 9) → Post none (mk h' τ)) : Cj γ mX9_learns d 0 0 [vA 123] (mk h τ) Post := by
  refine c_X9_learns hd hN hv hC.2.1 hC.1 hC.2.2 (fun h' hF a b c e => ?_)
  exact kQ h' (Fr_m (by decide) hF) (fun k x y _ => a k x y) ⟨Or.inr b, fun _ => c, e⟩ ⟨by rw [hF 124 (by decide), hN]; exact NT_tt hv, c.1⟩ c.2.2
theorem k_from {γ : GT} {d : Nat} {N : Nat → Int} {mi : Int} {h : Nat → Nat → Int} {τ : List AC} {Post : Option AV → List AC → Prop} (hd : 4 ≤ d) (hN : h 124 = N) (hv : NV N) (hC : RC h N) (hmi : 0 ≤ mi) (kQ : ∀ h', Fr [123, 127, 128, 129, 130, 131, 132, 133, 134, 135, 136, 143, 144] h h' → K3 h h' → RC h' N → RT h' (tt N) → CWf h' (tt N) mi → Post none (mk h' τ)) : Cj γ mX9_learnsFrom d 0 0 [vA 123, vI mi] (mk h τ) Post := by
  refine c_X9_learnsFrom hd hN hv hC.2.1 hC.1 hC.2.2 hmi (fun h' hF a b c f e => ?_)
  exact kQ h' (Fr_m (by decide) hF) (fun k x y _ => a k x y) ⟨Or.inr b, fun _ => c, e⟩ ⟨by rw [hF 124 (by decide), hN]; exact NT_tt hv, c.1⟩ (fun s m x y z w => c.2.2 s m x y (by omega) w)
