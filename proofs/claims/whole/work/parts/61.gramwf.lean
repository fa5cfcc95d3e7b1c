theorem skp_rng {B : Nat → Int} : ∀ f i, i ≤ skp B f i ∧ skp B f i ≤ i + f
  | 0, i => ⟨Nat.le_refl _, Nat.le_refl _⟩
  | f + 1, i => by
    have q := skp_rng (B := B) f (i + 1)
    show i ≤ (if B i = 32 then skp B f (i + 1) else i) ∧ (if B i = 32 then skp B f (i + 1) else i) ≤ i + (f + 1)
    split <;> omega
theorem rnn_rng {B : Nat → Int} {q : Int} : ∀ f i, (i ≤ rnn B q f i ∧ rnn B q f i ≤ i + f) ∧ ∀ j, i ≤ j → j < rnn B q f i → soF (B j) = q
  | 0, i => ⟨⟨Nat.le_refl _, Nat.le_refl _⟩, fun j h1 h2 => absurd (Nat.lt_of_le_of_lt h1 h2) (Nat.lt_irrefl _)⟩
  | f + 1, i => by
    have q2 := rnn_rng (B := B) (q := q) f (i + 1)
    show (i ≤ (if soF (B i) = q then rnn B q f (i + 1) else i) ∧ (if soF (B i) = q then rnn B q f (i + 1) else i) ≤ i + (f + 1)) ∧ ∀ j, i ≤ j → j < (if soF (B i) = q then rnn B q f (i + 1) else i) → soF (B j) = q
    split
    · rename_i hq
      refine ⟨⟨by omega, by omega⟩, ?_⟩
      intro j h1 h2
      by_cases hj : j = i
      · rw [hj]; exact hq
      · exact q2.2 j (by omega) h2
    · exact ⟨⟨by omega, by omega⟩, fun j h1 h2 => absurd h2 (by omega)⟩
theorem soF_rng (g : Int) : soF g = 1 ∨ soF g = 2 ∨ soF g = 3 := by
  unfold soF
  split
  · exact Or.inl rfl
  · split
    · exact Or.inr (Or.inl rfl)
    · exact Or.inr (Or.inr rfl)
theorem soF_2 {g : Int} (h : soF g = 2) : 48 ≤ g ∧ g ≤ 57 := by
  unfold soF at h
  split at h
  · omega
  · split at h
    · assumption
    · omega
/-- a token of the bytes B 0 .. B (n-1) -/
def tkV (B : Nat → Int) (n : Nat) (t : Tk) : Prop := t.2.1 ≤ t.2.2 ∧ t.2.2 ≤ n ∧ (0 ≤ t.1 ∧ t.1 ≤ 4) ∧ (¬ t.1 = 0 → t.2.1 < t.2.2) ∧ (t.1 = 2 → ∀ j, t.2.1 ≤ j → j < t.2.2 → 48 ≤ B j ∧ B j ≤ 57)
theorem nxt_V {B : Nat → Int} {n : Nat} {t : Tk} (h : t.2.2 ≤ n) : tkV B n (nxt B n t) ∧ t.2.2 ≤ (nxt B n t).2.1 := by
  have q := skp_rng (B := B) (n - t.2.2) t.2.2
  unfold nxt
  generalize skp B (n - t.2.2) t.2.2 = s at q
  split
  · exact ⟨⟨Nat.le_refl _, (by omega : s ≤ n), ⟨(by decide : (0 : Int) ≤ 0), (by decide : (0 : Int) ≤ 4)⟩, fun e => absurd rfl e, fun e => absurd e (by decide : ¬ (0 : Int) = 2)⟩, q.1⟩
  · split
    · exact ⟨⟨Nat.le_succ _, (by omega : s + 1 ≤ n), ⟨(by decide : (0 : Int) ≤ 3), (by decide : (3 : Int) ≤ 4)⟩, fun _ => Nat.lt_succ_self _, fun e => absurd e (by decide : ¬ (3 : Int) = 2)⟩, q.1⟩
    · have r := rnn_rng (B := B) (q := soF (B s)) (n - (s + 1)) (s + 1)
      generalize rnn B (soF (B s)) (n - (s + 1)) (s + 1) = e at r
      have k := soF_rng (B s)
      refine ⟨⟨(by omega : s ≤ e), (by omega : e ≤ n), ?_, fun _ => (by omega : s < e), ?_⟩, q.1⟩
      · show 0 ≤ (if _ then (4 : Int) else soF (B s)) ∧ (if _ then (4 : Int) else soF (B s)) ≤ 4
        split <;> omega
      · intro h2 j h3 h4
        have h3' : s ≤ j := h3
        have h4' : j < e := h4
        have h5 : soF (B s) = 2 := by
          have h6 : (if s = t.2.2 ∧ (t.1 = 1 ∨ t.1 = 2) then (4 : Int) else soF (B s)) = 2 := h2
          split at h6
          · omega
          · exact h6
        refine soF_2 ?_
        by_cases hj : j = s
        · rw [hj]; exact h5
        · rw [← h5]; exact r.2 j (by omega) h4'
theorem numF_rng {B : Nat → Int} {s : Nat} : ∀ m, (∀ j, j < m → 48 ≤ B (s + j) ∧ B (s + j) ≤ 57) → 0 ≤ numF B s m ∧ numF B s m + 1 ≤ 10 ^ m
  | 0, _ => ⟨(by decide : (0 : Int) ≤ 0), (by decide : (0 : Int) + 1 ≤ 10 ^ 0)⟩
  | m + 1, h => by
    have q := numF_rng m (fun j hj => h j (by omega))
    have r := h m (by omega)
    show 0 ≤ 10 * numF B s m + B (s + m) - 48 ∧ 10 * numF B s m + B (s + m) - 48 + 1 ≤ 10 ^ (m + 1)
    have e : (10 : Int) ^ (m + 1) = 10 * 10 ^ m := by rw [Int.pow_succ]; omega
    omega
theorem num_4 {B : Nat → Int} {s m : Nat} (hm : m ≤ 4) (h : ∀ j, j < m → 48 ≤ B (s + j) ∧ B (s + j) ≤ 57) : 0 ≤ numF B s m ∧ numF B s m ≤ 9999 := by
  have q := numF_rng m h
  have e : (10 : Int) ^ m ≤ 10000 := by
    rcases (by omega : m = 0 ∨ m = 1 ∨ m = 2 ∨ m = 3 ∨ m = 4) with r | r | r | r | r <;> subst r <;> decide
  omega
theorem nmF_rng (K g : Int) : -1 ≤ nmF K g ∧ nmF K g ≤ 2 ∧ (K = 1 → nmF K g ≤ 1) := by
  unfold nmF
  repeat' split
  all_goals omega
theorem lfc_rng {B : Nat → Int} {n : Nat} {K : Int} {t : Tk} (hV : tkV B n t) : lfc B K t = -1 ∨ (0 ≤ lfc B K t ∧ lfc B K t ≤ 10002 ∧ (K = 1 → lfc B K t ≤ 10001)) := by
  have hn := nmF_rng K (B t.2.1)
  unfold lfc
  split
  · rename_i h2
    split
    · right
      have q := num_4 (B := B) (s := t.2.1) (m := t.2.2 - t.2.1) (by assumption) (fun j hj => hV.2.2.2.2 h2 (t.2.1 + j) (by omega) (by omega))
      omega
    · left; rfl
  · split
    · right; omega
    · left; rfl
/-- codes over a stack of depth d -/
def wfl : List Int → Nat → Option Nat
  | [], d => some d
  | x :: r, d => if 0 ≤ x then wfl r (d + 1) else if x = -10 then (if 1 ≤ d then wfl r d else none) else (if 2 ≤ d then wfl r (d - 1) else none)
theorem wfl_app : ∀ (a b : List Int) (d e : Nat), wfl a d = some e → wfl (a ++ b) d = wfl b e
  | [], b, d, e, h => by
    have : d = e := Option.some.inj h
    rw [this]; rfl
  | x :: r, b, d, e, h => by
    show (if 0 ≤ x then wfl (r ++ b) (d + 1) else if x = -10 then (if 1 ≤ d then wfl (r ++ b) d else none) else (if 2 ≤ d then wfl (r ++ b) (d - 1) else none)) = wfl b e
    have h' : (if 0 ≤ x then wfl r (d + 1) else if x = -10 then (if 1 ≤ d then wfl r d else none) else (if 2 ≤ d then wfl r (d - 1) else none)) = some e := h
    split at h'
    · rw [if_pos (by assumption)]; exact wfl_app r b _ e h'
    · rw [if_neg (by assumption)]
      split at h'
      · rw [if_pos (by assumption)]
        split at h'
        · rw [if_pos (by assumption)]; exact wfl_app r b _ e h'
        · exact nomatch h'
      · rw [if_neg (by assumption)]
        split at h'
        · rw [if_pos (by assumption)]; exact wfl_app r b _ e h'
        · exact nomatch h'
theorem wfl_1 {x : Int} (h : 0 ≤ x) (d : Nat) : wfl [x] d = some (d + 1) := by
  show (if 0 ≤ x then some (d + 1) else _) = _
  rw [if_pos h]
theorem wfl_n (d : Nat) : wfl [-10] (d + 1) = some (d + 1) := by
  show (if (0 : Int) ≤ -10 then _ else if (-10 : Int) = -10 then (if 1 ≤ d + 1 then some (d + 1) else none) else _) = _
  rw [if_neg (by decide), if_pos rfl, if_pos (by omega)]
theorem wfl_s {x : Int} (h1 : x < 0) (h2 : ¬ x = -10) (d : Nat) : wfl [x] (d + 2) = some (d + 1) := by
  show (if 0 ≤ x then _ else if x = -10 then _ else (if 2 ≤ d + 2 then some (d + 2 - 1) else none)) = _
  rw [if_neg (by omega), if_neg h2, if_pos (by omega)]
  rfl
theorem sgT_rng {B : Nat → Int} {t : Tk} (h : ¬ sgT B t = 0) : -9 ≤ sgT B t ∧ sgT B t ≤ -1 := by
  have e : sgT B t = 0 ∨ (-9 ≤ sgT B t ∧ sgT B t ≤ -1) := by
    unfold sgT sgF
    repeat' split
    all_goals omega
  omega
theorem sg_k {B : Nat → Int} {t : Tk} (h : ¬ sgT B t = 0) : t.1 = 3 := by
  unfold sgT at h
  split at h
  · assumption
  · exact absurd rfl h
def GRW (B : Nat → Int) (n : Nat) (K : Int) (m _o _k : Nat) (t : Tk) (b : Bool) (t' : Tk) (cs : List Int) : Prop :=
  tkV B n t → tkV B n t' ∧ t.2.1 ≤ t'.2.1 ∧ (b = true → t.2.1 + cs.length ≤ t'.2.1 ∧ (∀ x : Int, x ∈ cs → -10 ≤ x ∧ x ≤ 10002 ∧ (K = 1 → x ≤ 10001)) ∧ (m ≤ 5 → ∀ d, wfl cs d = some (d + 1)) ∧ (10 ≤ m → ∀ d, wfl cs (d + 1) = some (d + 1)))
theorem gr_w {B : Nat → Int} {n : Nat} {K : Int} {m o k : Nat} {t t' : Tk} {b : Bool} {cs : List Int} (g : GR B n K m o k t b t' cs) : GRW B n K m o k t b t' cs := by
  refine g (GRW B n K) ⟨?_, ?_, ?_, ?_, ?_, ?_, ?_, ?_, ?_, ?_, ?_, ?_, ?_⟩
  · intro o k t h0 h1 hV
    have q := nxt_V (B := B) (n := n) (t := t) hV.2.1
    have hl := hV.2.2.2.1 (by omega)
    have hc := (lfc_rng (K := K) hV).resolve_left h1
    refine ⟨q.1, by omega, fun _ => ⟨?_, ?_, fun _ d => wfl_1 hc.1 d, fun h => absurd h (by omega)⟩⟩
    · show t.2.1 + 1 ≤ _; omega
    · intro x hx
      rw [List.mem_singleton] at hx
      subst hx
      exact ⟨by omega, hc.2.1, hc.2.2⟩
  · intro o k t h0 h1 hV
    exact ⟨hV, Nat.le_refl _, fun e => nomatch e⟩
  · intro o k t t' b cs h0 h1 h2 s hV
    have q := nxt_V (B := B) (n := n) (t := t) hV.2.1
    have hl := hV.2.2.2.1 (by omega)
    obtain ⟨a1, a2, a3⟩ := s q.1
    refine ⟨a1, by omega, fun hb => ?_⟩
    obtain ⟨b1, b2, b3, b4⟩ := a3 hb
    refine ⟨?_, ?_, fun _ d => ?_, fun h => absurd h (by omega)⟩
    · rw [List.length_append]; show t.2.1 + (cs.length + 1) ≤ _; omega
    · intro x hx
      rcases List.mem_append.1 hx with hx | hx
      · exact b2 x hx
      · rw [List.mem_singleton] at hx; subst hx; exact ⟨by omega, by omega, fun _ => by omega⟩
    · rw [wfl_app _ _ _ _ (b3 (by omega) d), wfl_n]
  · intro o k t t' cs h0 h1 h2 s h4 h5 hV
    have q := nxt_V (B := B) (n := n) (t := t) hV.2.1
    have hl := hV.2.2.2.1 (by omega)
    obtain ⟨a1, a2, a3⟩ := s q.1
    have q2 := nxt_V (B := B) (n := n) (t := t') a1.2.1
    have hl2 := a1.2.2.2.1 (by omega)
    obtain ⟨b1, b2, b3, b4⟩ := a3 rfl
    exact ⟨q2.1, by omega, fun _ => ⟨by omega, b2, fun _ d => b3 (by omega) d, fun h => absurd h (by omega)⟩⟩
  · intro o k t t' cs h0 h1 h2 s hV
    have q := nxt_V (B := B) (n := n) (t := t) hV.2.1
    have hl := hV.2.2.2.1 (by omega)
    obtain ⟨a1, a2, a3⟩ := s q.1
    exact ⟨a1, by omega, fun e => nomatch e⟩
  · intro o k t t' cs h0 h1 h2 s h4 hV
    have q := nxt_V (B := B) (n := n) (t := t) hV.2.1
    have hl := hV.2.2.2.1 (by omega)
    obtain ⟨a1, a2, a3⟩ := s q.1
    exact ⟨a1, by omega, fun e => nomatch e⟩
  · intro o k t h0 h1 h2 hV
    exact ⟨hV, Nat.le_refl _, fun e => nomatch e⟩
  · intro L o k t t1 t' b c1 c2 h0 s1 s2 hV
    obtain ⟨a1, a2, a3⟩ := s1 hV
    obtain ⟨d1, d2, d3⟩ := s2 a1
    obtain ⟨b1, b2, b3, b4⟩ := a3 rfl
    refine ⟨d1, by omega, fun hb => ?_⟩
    obtain ⟨e1, e2, e3, e4⟩ := d3 hb
    refine ⟨?_, ?_, fun _ d => ?_, fun h => absurd h (by omega)⟩
    · rw [List.length_append]; omega
    · intro x hx
      rcases List.mem_append.1 hx with hx | hx
      · exact b2 x hx
      · exact e2 x hx
    · rw [wfl_app _ _ _ _ (b3 (by omega) d), e4 (by omega)]
  · intro L o k t t' c h0 s1 hV
    obtain ⟨a1, a2, a3⟩ := s1 hV
    exact ⟨a1, a2, fun e => nomatch e⟩
  · intro L o k t h0 h1 hV
    exact ⟨hV, Nat.le_refl _, fun _ => ⟨Nat.le_refl _, fun x hx => absurd hx List.not_mem_nil, fun h => absurd h (by omega), fun _ d => rfl⟩⟩
  · intro L o k t t1 t' b c1 c2 h0 h1 h2 s1 s2 hV
    have q := nxt_V (B := B) (n := n) (t := t) hV.2.1
    have hl := hV.2.2.2.1 (by have := sg_k h2.1; omega)
    have hg := sgT_rng h2.1
    obtain ⟨a1, a2, a3⟩ := s1 q.1
    obtain ⟨d1, d2, d3⟩ := s2 a1
    obtain ⟨b1, b2, b3, b4⟩ := a3 rfl
    refine ⟨d1, by omega, fun hb => ?_⟩
    obtain ⟨e1, e2, e3, e4⟩ := d3 hb
    refine ⟨?_, ?_, fun h => absurd h (by omega), fun _ d => ?_⟩
    · rw [List.length_append, List.length_append]; show t.2.1 + (c1.length + 1 + c2.length) ≤ _; omega
    · intro x hx
      rcases List.mem_append.1 hx with hx | hx
      · rcases List.mem_append.1 hx with hx | hx
        · exact b2 x hx
        · rw [List.mem_singleton] at hx; subst hx; exact ⟨by omega, by omega, fun _ => by omega⟩
      · exact e2 x hx
    · have w1 : wfl (c1 ++ [sgT B t]) (d + 1) = some (d + 1) := by
        rw [wfl_app _ _ _ _ (b3 (by omega) (d + 1)), wfl_s (by omega) (by omega)]
      rw [wfl_app _ _ _ _ w1, e4 (by omega)]
  · intro o k t t1 c1 h2 s1 hV
    have q := nxt_V (B := B) (n := n) (t := t) hV.2.1
    have hl := hV.2.2.2.1 (by have := sg_k h2.1; omega)
    have hg := sgT_rng h2.1
    obtain ⟨a1, a2, a3⟩ := s1 q.1
    obtain ⟨b1, b2, b3, b4⟩ := a3 rfl
    refine ⟨a1, by omega, fun hb => ⟨?_, ?_, fun h => absurd h (by omega), fun _ d => ?_⟩⟩
    · rw [List.length_append]; show t.2.1 + (c1.length + 1) ≤ _; omega
    · intro x hx
      rcases List.mem_append.1 hx with hx | hx
      · exact b2 x hx
      · rw [List.mem_singleton] at hx; subst hx; exact ⟨by omega, by omega, fun _ => by omega⟩
    · rw [wfl_app _ _ _ _ (b3 (by omega) (d + 1)), wfl_s (by omega) (by omega)]
  · intro L o k t t' c h0 h2 s1 hV
    have q := nxt_V (B := B) (n := n) (t := t) hV.2.1
    have hl := hV.2.2.2.1 (by have := sg_k h2.1; omega)
    obtain ⟨a1, a2, a3⟩ := s1 q.1
    exact ⟨a1, by omega, fun e => nomatch e⟩
