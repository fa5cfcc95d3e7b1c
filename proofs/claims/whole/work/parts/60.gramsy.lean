theorem rk_sg {B : Nat → Int} {t : Tk} (h : ¬ sgT B t = 0) : (1 ≤ rkF (sgT B t) ∧ rkF (sgT B t) ≤ 5) ∧ ¬ sgT B t = -10 ∧ ¬ sgT B t = -11 := by
  have e : sgT B t = 0 ∨ (-9 ≤ sgT B t ∧ sgT B t ≤ -1) := by
    unfold sgT sgF
    repeat' split
    all_goals omega
  have e2 : -9 ≤ sgT B t ∧ sgT B t ≤ -1 := by omega
  refine ⟨?_, by omega, by omega⟩
  unfold rkF
  repeat' split
  all_goals omega
theorem ntc_sg {x : Int} {W : List Int} (h : ¬ x = -10) : ntc (x :: W) = ntc W := by
  have e : isNt x = false := decide_eq_false h
  unfold ntc
  rw [List.countP_cons]
  simp [e]
theorem ntc_not {W : List Int} : ntc (-10 :: W) = ntc W + 1 := by
  have e : isNt (-10) = true := by decide
  unfold ntc
  rw [List.countP_cons]
  simp [e]
theorem lowT_up {L : Nat} {W : List Int} (h : lowT L W) : lowT (L + 1) W := by
  intro x r e
  rcases h x r e with q | q
  · exact Or.inl q
  · right; omega
theorem qT_5 {B : Nat → Int} {o : Nat} {t : Tk} {T : Nat → Bool} : qT B 5 o t T := by
  intro h1 h2
  have := (rk_sg h1).1
  omega
theorem qT_dn {B : Nat → Int} {L o : Nat} {t : Tk} {T : Nat → Bool} (hj : ¬ jnT B L t) (h : qT B (L + 1) o t T) : qT B L o t T := by
  intro h1 h2
  have hne : ¬ rkF (sgT B t) = (L : Int) + 1 := fun e => hj ⟨h1, e⟩
  obtain ⟨a, b, c⟩ := h h1 (by omega)
  exact ⟨a, by omega, c⟩
theorem lowT_sg {L : Nat} {x : Int} {W : List Int} (h : rkF x = (L : Int) + 1) : lowT (L + 1) (x :: W) := by
  intro y r e
  injection e with e1 e2
  subst e1
  right; omega
theorem y_leaf {B : Nat → Int} {n : Nat} {K : Int} {Fl : Tk → Prop} {G : Tk → List Int → List Int → Nat → Bool → (Nat → Bool) → Prop} (H : SYC B n K Fl G) (o k : Nat) (t : Tk) (h0 : t.1 = 1 ∨ t.1 = 2) (h1 : ¬ lfc B K t = -1) : GRS B n K Fl G 5 o k t true (nxt B n t) [lfc B K t] := by
  obtain ⟨hN, hO, hL, hF, hC, hS, hSF, hEF⟩ := H
  refine ⟨?_, fun h => absurd h (by omega), fun L h => absurd h (by omega)⟩
  intro _ W C T hk kt kf
  exact hL t W C o T h0 h1 (kt rfl T (fun _ _ => rfl))
theorem y_leafF {B : Nat → Int} {n : Nat} {K : Int} {Fl : Tk → Prop} {G : Tk → List Int → List Int → Nat → Bool → (Nat → Bool) → Prop} (H : SYC B n K Fl G) (o k : Nat) (t : Tk) (h0 : t.1 = 1 ∨ t.1 = 2) (h1 : lfc B K t = -1) : GRS B n K Fl G 5 o k t false t [] := by
  obtain ⟨hN, hO, hL, hF, hC, hS, hSF, hEF⟩ := H
  refine ⟨?_, fun h => absurd h (by omega), fun L h => absurd h (by omega)⟩
  intro _ W C T hk kt kf
  exact hF t W C o T (fun _ => h1) (fun q => by have := q.1; omega) (fun q => by have := q.1; omega) (kf rfl)
theorem y_notT {B : Nat → Int} {n : Nat} {K : Int} {Fl : Tk → Prop} {G : Tk → List Int → List Int → Nat → Bool → (Nat → Bool) → Prop} (H : SYC B n K Fl G) (o k : Nat) (t t' : Tk) (b : Bool) (cs : List Int) (h0 : t.1 = 3) (h1 : B t.2.1 = 33) (h2 : k < 8) (s1 : GRS B n K Fl G 5 o (k + 1) (nxt B n t) b t' cs) : GRS B n K Fl G 5 o k t b t' (cs ++ [-10]) := by
  obtain ⟨hN, hO, hL, hF, hC, hS, hSF, hEF⟩ := H
  refine ⟨?_, fun h => absurd h (by omega), fun L h => absurd h (by omega)⟩
  intro _ W C T hk kt kf
  refine hN t W C o T h0 h1 (by omega) (s1.1 rfl (-10 :: W) C T (by rw [ntc_not, hk]) (fun hb T' hT => ?_) kf)
  have q := kt hb T' hT
  have e1 : (-10 :: W).dropWhile isNt = W.dropWhile isNt := rfl
  have e2 : (-10 :: W).takeWhile isNt = -10 :: W.takeWhile isNt := rfl
  rw [e1, e2]
  have e3 : C ++ cs ++ -10 :: W.takeWhile isNt = C ++ (cs ++ [-10]) ++ W.takeWhile isNt := by simp [List.append_assoc]
  rw [e3]
  exact q
theorem low_op {W : List Int} : lowT 0 (-11 :: W) := by
  intro x r e
  injection e with e1 e2
  exact Or.inl e1.symm
theorem y_parT {B : Nat → Int} {n : Nat} {K : Int} {Fl : Tk → Prop} {G : Tk → List Int → List Int → Nat → Bool → (Nat → Bool) → Prop} (H : SYC B n K Fl G) (o k : Nat) (t t' : Tk) (cs : List Int) (h0 : t.1 = 3) (h1 : B t.2.1 = 40) (h2 : o < 8) (s1 : GRS B n K Fl G 0 (o + 1) k (nxt B n t) true t' cs) (h4 : t'.1 = 3) (h5 : B t'.2.1 = 41) : GRS B n K Fl G 5 o k t true (nxt B n t') cs := by
  obtain ⟨hN, hO, hL, hF, hC, hS, hSF, hEF⟩ := H
  refine ⟨?_, fun h => absurd h (by omega), fun L h => absurd h (by omega)⟩
  intro _ W C T hk kt kf
  refine hO t W C o T h0 h1 h2 (s1.2.1 (by omega) (-11 :: W) C _ (by rw [ntc_sg (by decide), hk]) low_op (fun _ => if_pos rfl) (fun _ T' c p e hp hj _ hq => ?_) (fun e => nomatch e))
  refine hC t' p W (C ++ c) o T' h4 h5 (fun x hx => (hp x hx).1) ?_
  have q := kt rfl T' (fun j hj2 => (hj j (by omega)).trans (if_neg (by omega)))
  have e3 : C ++ c ++ p ++ W.takeWhile isNt = C ++ cs ++ W.takeWhile isNt := by rw [← e]; simp [List.append_assoc]
  rw [e3]
  exact q
theorem y_parF {B : Nat → Int} {n : Nat} {K : Int} {Fl : Tk → Prop} {G : Tk → List Int → List Int → Nat → Bool → (Nat → Bool) → Prop} (H : SYC B n K Fl G) (o k : Nat) (t t' : Tk) (cs : List Int) (h0 : t.1 = 3) (h1 : B t.2.1 = 40) (h2 : o < 8) (s1 : GRS B n K Fl G 0 (o + 1) k (nxt B n t) false t' cs) : GRS B n K Fl G 5 o k t false t' [] := by
  obtain ⟨hN, hO, hL, hF, hC, hS, hSF, hEF⟩ := H
  refine ⟨?_, fun h => absurd h (by omega), fun L h => absurd h (by omega)⟩
  intro _ W C T hk kt kf
  exact hO t W C o T h0 h1 h2 (s1.2.1 (by omega) (-11 :: W) C _ (by rw [ntc_sg (by decide), hk]) low_op (fun _ => if_pos rfl) (fun e => nomatch e) kf)
theorem y_parG {B : Nat → Int} {n : Nat} {K : Int} {Fl : Tk → Prop} {G : Tk → List Int → List Int → Nat → Bool → (Nat → Bool) → Prop} (H : SYC B n K Fl G) (o k : Nat) (t t' : Tk) (cs : List Int) (h0 : t.1 = 3) (h1 : B t.2.1 = 40) (h2 : o < 8) (s1 : GRS B n K Fl G 0 (o + 1) k (nxt B n t) true t' cs) (h4 : ¬ (t'.1 = 3 ∧ B t'.2.1 = 41)) : GRS B n K Fl G 5 o k t false t' [] := by
  obtain ⟨hN, hO, hL, hF, hC, hS, hSF, hEF⟩ := H
  refine ⟨?_, fun h => absurd h (by omega), fun L h => absurd h (by omega)⟩
  intro _ W C T hk kt kf
  refine hO t W C o T h0 h1 h2 (s1.2.1 (by omega) (-11 :: W) C _ (by rw [ntc_sg (by decide), hk]) low_op (fun _ => if_pos rfl) (fun _ T' c p e hp hj _ hq => ?_) (fun e => nomatch e))
  by_cases hz : t'.1 = 0
  · exact hEF t' _ _ o T' hz (kf rfl)
  · refine hSF t' _ _ (o + 1) T' hz (fun q => h4 ⟨q.1, q.2.1⟩) ?_ (kf rfl)
    by_cases hs : sgT B t' = 0
    · exact Or.inl hs
    · have q := hq hs (by have := (rk_sg hs).1; omega)
      exact Or.inr ⟨q.1, q.2.2⟩
theorem y_othF {B : Nat → Int} {n : Nat} {K : Int} {Fl : Tk → Prop} {G : Tk → List Int → List Int → Nat → Bool → (Nat → Bool) → Prop} (H : SYC B n K Fl G) (o k : Nat) (t : Tk) (h0 : ¬ (t.1 = 1 ∨ t.1 = 2)) (h1 : ¬ (t.1 = 3 ∧ B t.2.1 = 33 ∧ k < 8)) (h2 : ¬ (t.1 = 3 ∧ B t.2.1 = 40 ∧ o < 8)) : GRS B n K Fl G 5 o k t false t [] := by
  obtain ⟨hN, hO, hL, hF, hC, hS, hSF, hEF⟩ := H
  refine ⟨?_, fun h => absurd h (by omega), fun L h => absurd h (by omega)⟩
  intro _ W C T hk kt kf
  exact hF t W C o T (fun q => absurd q h0) (by rw [hk]; exact h1) h2 (kf rfl)
theorem y_lev {B : Nat → Int} {n : Nat} {K : Int} {Fl : Tk → Prop} {G : Tk → List Int → List Int → Nat → Bool → (Nat → Bool) → Prop} (L o k : Nat) (t t1 t' : Tk) (b : Bool) (c1 c2 : List Int) (h0 : L < 5) (s1 : GRS B n K Fl G (L + 1) o k t true t1 c1) (s2 : GRS B n K Fl G (10 + L) o k t1 b t' c2) : GRS B n K Fl G L o k t b t' (c1 ++ c2) := by
  refine ⟨fun h => absurd h (by omega), ?_, fun L h => absurd h (by omega)⟩
  intro _ W C T hk hlow hT kt kf
  by_cases h4 : L = 4
  · refine s1.1 (by omega) W C T hk (fun _ T' hj => ?_) (fun e => nomatch e)
    obtain ⟨w1, w2⟩ := lowT_nt (by omega) hlow
    rw [w1, w2, List.append_nil]
    exact s2.2.2 L rfl h0 W C T' c1 [] hk hlow (fun h => absurd h (by omega)) (fun x hx => absurd hx List.not_mem_nil) (by subst h4; exact qT_5) (fun hb T2 c p e hp hj2 h3 hq => kt hb T2 c p (by rw [e, List.append_nil]) hp (fun j h => (hj2 j h).trans (hj j (by omega))) (fun h => (h3 h).trans (hj o (by omega))) hq) kf
  · refine s1.2.1 (by omega) W C T hk (lowT_up hlow) (fun h => hT (by omega)) (fun _ T' c p e hp hj h3 hq => ?_) (fun e => nomatch e)
    exact s2.2.2 L rfl h0 W C T' c p hk hlow (fun h => (h3 (by omega)).trans (hT (by omega))) (fun x hx => by have := hp x hx; exact ⟨this.1, by omega, this.2.2⟩) hq (fun hb T2 c' p' e' hp' hj2 h32 hq2 => kt hb T2 c' p' (by rw [e', e]) hp' (fun j h => (hj2 j h).trans (hj j h)) (fun h => (h32 h).trans (h3 (by omega))) hq2) kf
theorem y_levF {B : Nat → Int} {n : Nat} {K : Int} {Fl : Tk → Prop} {G : Tk → List Int → List Int → Nat → Bool → (Nat → Bool) → Prop} (L o k : Nat) (t t' : Tk) (c : List Int) (h0 : L < 5) (s1 : GRS B n K Fl G (L + 1) o k t false t' c) : GRS B n K Fl G L o k t false t' [] := by
  refine ⟨fun h => absurd h (by omega), ?_, fun L h => absurd h (by omega)⟩
  intro _ W C T hk hlow hT kt kf
  by_cases h4 : L = 4
  · exact s1.1 (by omega) W C T hk (fun e => nomatch e) kf
  · exact s1.2.1 (by omega) W C T hk (lowT_up hlow) (fun h => hT (by omega)) (fun e => nomatch e) kf
theorem y_lpE {B : Nat → Int} {n : Nat} {K : Int} {Fl : Tk → Prop} {G : Tk → List Int → List Int → Nat → Bool → (Nat → Bool) → Prop} (L o k : Nat) (t : Tk) (h0 : L < 5) (h1 : ¬ jnT B L t) : GRS B n K Fl G (10 + L) o k t true t [] := by
  refine ⟨fun h => absurd h (by omega), fun h => absurd h (by omega), ?_⟩
  intro L' hm hL' W C T c0 p0 hk hlow hT2 hp0 hq kt kf
  obtain rfl : L' = L := by omega
  exact kt rfl T c0 p0 (by rw [List.append_nil]) hp0 (fun _ _ => rfl) (fun _ => rfl) (qT_dn h1 hq)
theorem y_sign {B : Nat → Int} {n : Nat} {K : Int} {Fl : Tk → Prop} {G : Tk → List Int → List Int → Nat → Bool → (Nat → Bool) → Prop} (H : SYC B n K Fl G) {L o : Nat} {t : Tk} {W C p0 : List Int} {T : Nat → Bool} (hj : jnT B L t) (hT : L = 2 → T o = false) (hlow : lowT L W) (hp0 : ∀ x : Int, x ∈ p0 → ¬ x = -11 ∧ (L : Int) + 1 ≤ rkF x ∧ rkF x ≤ 5) (g : ∀ T1 : Nat → Bool, (∀ j, j < o → T1 j = T j) → (3 ≤ L → T1 o = T o) → (L + 1 ≤ 2 → T1 o = false) → (L = 2 → T1 o = true) → G (nxt B n t) (sgT B t :: W) (C ++ p0) o true T1) : G t (p0 ++ W) C o false T := by
  obtain ⟨hN, hO, hL, hF, hC, hS, hSF, hEF⟩ := H
  obtain ⟨hs, hr⟩ := hj
  refine hS t p0 W C o T hs ?_ ?_ ?_ (g _ ?_ ?_ ?_ ?_)
  · rintro ⟨a, b⟩
    have := hT (by omega)
    rw [this] at b
    exact nomatch b
  · intro x hx
    have := hp0 x hx
    exact ⟨this.1, by omega⟩
  · intro x r e
    rcases hlow x r e with q | q
    · exact Or.inl q
    · right; omega
  · intro j hj
    exact if_neg (by omega)
  · intro h
    have e1 : decide (rkF (sgT B t) = 3) = false := decide_eq_false (by omega)
    have e2 : decide (3 < rkF (sgT B t)) = true := decide_eq_true (by omega)
    show (if o = o then _ else _) = _
    rw [if_pos rfl, e1, e2]; simp
  · intro h
    have e1 : decide (rkF (sgT B t) = 3) = false := decide_eq_false (by omega)
    have e2 : decide (3 < rkF (sgT B t)) = false := decide_eq_false (by omega)
    show (if o = o then _ else _) = _
    rw [if_pos rfl, e1, e2]; simp
  · intro h
    have e1 : decide (rkF (sgT B t) = 3) = true := decide_eq_true (by omega)
    show (if o = o then _ else _) = _
    rw [if_pos rfl, e1]; simp
theorem y_lpS {B : Nat → Int} {n : Nat} {K : Int} {Fl : Tk → Prop} {G : Tk → List Int → List Int → Nat → Bool → (Nat → Bool) → Prop} (H : SYC B n K Fl G) (L o k : Nat) (t t1 t' : Tk) (b : Bool) (c1 c2 : List Int) (h0 : L < 5) (h1 : ¬ L = 2) (h2 : jnT B L t) (s1 : GRS B n K Fl G (L + 1) o k (nxt B n t) true t1 c1) (s2 : GRS B n K Fl G (10 + L) o k t1 b t' c2) : GRS B n K Fl G (10 + L) o k t b t' (c1 ++ [sgT B t] ++ c2) := by
  refine ⟨fun h => absurd h (by omega), fun h => absurd h (by omega), ?_⟩
  intro L' hm hL' W C T c0 p0 hk hlow hT2 hp0 hq kt kf
  obtain rfl : L' = L := by omega
  refine y_sign H h2 hT2 hlow hp0 (fun T1 t1a t1b t1c t1d => ?_)
  obtain ⟨hs, hr⟩ := h2
  have hg := rk_sg hs
  have hk2 : ntc (sgT B t :: W) = k := by rw [ntc_sg hg.2.1, hk]
  have hl2 : lowT (L' + 1) (sgT B t :: W) := lowT_sg hr
  by_cases h4 : L' = 4
  · refine s1.1 (by omega) _ _ T1 hk2 (fun _ T' hj => ?_) (fun e => nomatch e)
    obtain ⟨w1, w2⟩ := lowT_nt (by omega) hl2
    rw [w1, w2, List.append_nil]
    have q := s2.2.2 L' rfl h0 W C T' (c0 ++ p0 ++ c1) [sgT B t] hk hlow (fun h => absurd h (by omega)) (fun x hx => by rw [List.mem_singleton] at hx; subst hx; exact ⟨hg.2.2, by omega, hg.1.2⟩) (by subst h4; exact qT_5) (fun hb T2 c p e hp hj2 h3 hq => kt hb T2 c p (by rw [e]; simp [List.append_assoc]) hp (fun j h => ((hj2 j h).trans (hj j (by omega))).trans (t1a j h)) (fun h => ((h3 h).trans (hj o (by omega))).trans (t1b h)) hq) kf
    have e3 : C ++ c0 ++ p0 ++ c1 = C ++ (c0 ++ p0 ++ c1) := by simp [List.append_assoc]
    rw [e3]
    exact q
  · refine s1.2.1 (by omega) _ _ T1 hk2 hl2 (fun h => t1c h) (fun _ T' c p e hp hj h3 hq => ?_) (fun e => nomatch e)
    have q := s2.2.2 L' rfl h0 W C T' (c0 ++ p0 ++ c) (p ++ [sgT B t]) hk hlow (fun h => absurd h h1) (fun x hx => by
      rcases List.mem_append.1 hx with hx | hx
      · have := hp x hx; exact ⟨this.1, by omega, this.2.2⟩
      · rw [List.mem_singleton] at hx; subst hx; exact ⟨hg.2.2, by omega, hg.1.2⟩) hq (fun hb T2 c' p' e' hp' hj2 h32 hq2 => kt hb T2 c' p' (by rw [e', ← e]; simp [List.append_assoc]) hp' (fun j h => ((hj2 j h).trans (hj j h)).trans (t1a j h)) (fun h => ((h32 h).trans (h3 (by omega))).trans (t1b h)) hq2) kf
    have e3 : C ++ c0 ++ p0 ++ c = C ++ (c0 ++ p0 ++ c) := by simp [List.append_assoc]
    have e4 : p ++ sgT B t :: W = p ++ [sgT B t] ++ W := by simp [List.append_assoc]
    rw [e3, e4]
    exact q
theorem y_lpT {B : Nat → Int} {n : Nat} {K : Int} {Fl : Tk → Prop} {G : Tk → List Int → List Int → Nat → Bool → (Nat → Bool) → Prop} (H : SYC B n K Fl G) (o k : Nat) (t t1 : Tk) (c1 : List Int) (h2 : jnT B 2 t) (s1 : GRS B n K Fl G 3 o k (nxt B n t) true t1 c1) : GRS B n K Fl G 12 o k t true t1 (c1 ++ [sgT B t]) := by
  refine ⟨fun h => absurd h (by omega), fun h => absurd h (by omega), ?_⟩
  intro L' hm hL' W C T c0 p0 hk hlow hT2 hp0 hq kt kf
  obtain rfl : L' = 2 := by omega
  refine y_sign H h2 hT2 hlow hp0 (fun T1 t1a t1b t1c t1d => ?_)
  obtain ⟨hs, hr⟩ := h2
  have hg := rk_sg hs
  have hk2 : ntc (sgT B t :: W) = k := by rw [ntc_sg hg.2.1, hk]
  have hl2 : lowT 3 (sgT B t :: W) := lowT_sg hr
  refine s1.2.1 (by omega) _ _ T1 hk2 hl2 (fun h => absurd h (by omega)) (fun _ T' c p e hp hj h3 hq => ?_) (fun e => nomatch e)
  have q := kt rfl T' (c0 ++ p0 ++ c) (p ++ [sgT B t]) (by rw [← e]; simp [List.append_assoc]) (fun x hx => by
      rcases List.mem_append.1 hx with hx | hx
      · have := hp x hx; exact ⟨this.1, by omega, this.2.2⟩
      · rw [List.mem_singleton] at hx; subst hx; exact ⟨hg.2.2, by omega, hg.1.2⟩) (fun j h => (hj j h).trans (t1a j h)) (fun h => absurd h (by omega)) (fun hs1 hr1 => by
      have ht : T' o = true := (h3 (by omega)).trans (t1d rfl)
      by_cases h5 : rkF (sgT B t1) = 3
      · exact ⟨h5, by omega, ht⟩
      · have := hq hs1 (by omega)
        omega)
  have e3 : C ++ c0 ++ p0 ++ c = C ++ (c0 ++ p0 ++ c) := by simp [List.append_assoc]
  have e4 : p ++ sgT B t :: W = p ++ [sgT B t] ++ W := by simp [List.append_assoc]
  rw [e3, e4]
  exact q
theorem y_lpF {B : Nat → Int} {n : Nat} {K : Int} {Fl : Tk → Prop} {G : Tk → List Int → List Int → Nat → Bool → (Nat → Bool) → Prop} (H : SYC B n K Fl G) (L o k : Nat) (t t' : Tk) (c : List Int) (h0 : L < 5) (h2 : jnT B L t) (s1 : GRS B n K Fl G (L + 1) o k (nxt B n t) false t' c) : GRS B n K Fl G (10 + L) o k t false t' [] := by
  refine ⟨fun h => absurd h (by omega), fun h => absurd h (by omega), ?_⟩
  intro L' hm hL' W C T c0 p0 hk hlow hT2 hp0 hq kt kf
  obtain rfl : L' = L := by omega
  refine y_sign H h2 hT2 hlow hp0 (fun T1 t1a t1b t1c t1d => ?_)
  obtain ⟨hs, hr⟩ := h2
  have hg := rk_sg hs
  have hk2 : ntc (sgT B t :: W) = k := by rw [ntc_sg hg.2.1, hk]
  have hl2 : lowT (L' + 1) (sgT B t :: W) := lowT_sg hr
  by_cases h4 : L' = 4
  · exact s1.1 (by omega) _ _ T1 hk2 (fun e => nomatch e) kf
  · exact s1.2.1 (by omega) _ _ T1 hk2 hl2 (fun h => t1c h) (fun e => nomatch e) kf
theorem gr_sy {B : Nat → Int} {n : Nat} {K : Int} {Fl : Tk → Prop} {G : Tk → List Int → List Int → Nat → Bool → (Nat → Bool) → Prop} (H : SYC B n K Fl G) {m o k : Nat} {t t' : Tk} {b : Bool} {cs : List Int} (g : GR B n K m o k t b t' cs) : GRS B n K Fl G m o k t b t' cs :=
  g _ ⟨y_leaf H, y_leafF H, y_notT H, y_parT H, y_parF H, y_parG H, y_othF H, y_lev, y_levF, y_lpE, y_lpS H, y_lpT H, y_lpF H⟩
/-- the whole expression -/
theorem gr_top {B : Nat → Int} {n : Nat} {K : Int} {Fl : Tk → Prop} {G : Tk → List Int → List Int → Nat → Bool → (Nat → Bool) → Prop} (H : SYC B n K Fl G) {t t' : Tk} {b : Bool} {cs : List Int} (g : GR B n K 0 0 0 t b t' cs) {T : Nat → Bool} (hT : T 0 = false) (kF : ¬ (b = true ∧ t'.1 = 0) → Fl t') (kS : b = true → t'.1 = 0 → ∀ (T' : Nat → Bool) (c p : List Int), c ++ p = cs → (∀ x : Int, x ∈ p → ¬ x = -11) → G t' p c 0 false T') : G t [] [] 0 true T := by
  refine (gr_sy H g).2.1 (by omega) [] [] T rfl (fun x r e => nomatch e) (fun _ => hT) (fun hb T' c p e hp hj _ hq => ?_) (fun hb => kF (fun q => by rw [hb] at q; exact nomatch q.1))
  rw [List.append_nil, List.nil_append]
  by_cases hz : t'.1 = 0
  · exact kS hb hz T' c p e (fun x hx => (hp x hx).1)
  · obtain ⟨hN, hO, hL, hF, hC, hS, hSF, hEF⟩ := H
    refine hSF t' _ _ 0 T' hz (fun q => by omega) ?_ (kF (fun q => hz q.2))
    by_cases hs : sgT B t' = 0
    · exact Or.inl hs
    · have q := hq hs (by have := (rk_sg hs).1; omega)
      exact Or.inr ⟨q.1, q.2.2⟩
