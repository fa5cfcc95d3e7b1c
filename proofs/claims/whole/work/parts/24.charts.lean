/-! CHARTS: what it is worth to be at a stop at a minute, over a timetable T -/
def lsT (T : Nat → Nat → Int) (t : Nat) : Int := T 6 t + T 7 t
def arT (T : Nat → Nat → Int) (t s : Nat) (m : Int) : Int := arrF (T 9 (4 * t + s)) m (T 4 t) (T 3 t) (T 0 0) (T 1 (Int.toNat (T 3 t)))
def mxF (a b : Int) : Int := if a < b then b else a
/-- the dearest of the first steps -/
def dmT (T : Nat → Nat → Int) (g : Int → Int → Int) (t : Nat) (m : Int) : Nat → Int
  | 0 => 0
  | k + 1 => if T 8 (4 * t + k) = 0 then dmT T g t m k else mxF (dmT T g t m k) (g (T 3 t) (arT T t k m))
def mnT (T : Nat → Nat → Int) (g : Int → Int → Int) (t : Nat) (m : Int) : Nat → Int := sm (fun s => T 8 (4 * t + s) * g (T 3 t) (arT T t s m))
def bhT (κ : Int) (T : Nat → Nat → Int) (g : Int → Int → Int) (t : Nat) (m : Int) : Int := if κ = 2 then (if dmT T g t m 4 = 2147483647 then 2147483647 else T 5 t + dmT T g t m 4) else mnT T g t m 4 / 100
def btr (κ a b : Int) : Prop := (κ = 1 ∧ b < a) ∨ (¬ κ = 1 ∧ a < b)
theorem btr_dec (κ a b : Int) : btr κ a b ∨ ¬ btr κ a b := by unfold btr; omega
/-- the best of the first n trains at a stop and a minute: train (none: -1), worth -/
def bsT (κ : Int) (T : Nat → Nat → Int) (g : Int → Int → Int) (stop m : Int) : Nat → Int × Int
  | 0 => (-1, wonF κ)
  | n + 1 => if T 2 n = stop ∧ m ≤ lsT T n then (if (bsT κ T g stop m n).1 < 0 ∨ ((κ = 1 ∧ (bsT κ T g stop m n).2 < bhT κ T g n m) ∨ (¬ κ = 1 ∧ bhT κ T g n m < (bsT κ T g stop m n).2)) then ((n : Int), bhT κ T g n m) else bsT κ T g stop m n) else bsT κ T g stop m n
def WF (κ : Int) (T : Nat → Nat → Int) : Nat → Int → Int → Int
  | 0, stop, m => if stop = T 0 0 then wogF κ m (T 0 1) else wonF κ
  | f + 1, stop, m => if stop = T 0 0 then wogF κ m (T 0 1) else (bsT κ T (WF κ T f) stop m (Int.toNat (T 0 2))).2
def WT (κ : Int) (T : Nat → Nat → Int) (stop m : Int) : Int := WF κ T (Int.toNat (1600 - m)) stop m
def TK (T : Nat → Nat → Int) (stop m : Int) : Int := if stop = T 0 0 then -1 else (bsT 0 T (WT 0 T) stop m (Int.toNat (T 0 2))).1
theorem arT_rng {T : Nat → Nat → Int} (h : tOK T) {t s : Nat} {m : Int} (hs : s < 4) : m + 1 ≤ arT T t s m ∧ T 9 (4 * t + s) + 1 ≤ arT T t s m ∧ (m ≤ 1601 → arT T t s m ≤ 2300) ∧ (0 ≤ m → 0 ≤ arT T t s m) ∧ arT T t s m ≤ (if m < 1601 then 1601 else m) + 699 := by
  obtain ⟨h1, h2, h3, h4, h5, h6⟩ := h
  obtain ⟨b1, b2, b3, b4, b5, b6, b7, b8⟩ := h6 t
  have b9 := b7 s hs
  have b10 := h5 (Int.toNat (T 3 t))
  unfold arT arrF
  generalize hA : (if T 9 (4 * t + s) < m then m else T 9 (4 * t + s)) = A
  generalize hB : (if T 3 t = T 0 0 then 0 else T 1 (Int.toNat (T 3 t))) = B
  have hB' : 0 ≤ B ∧ B ≤ 99 := by rw [← hB]; split <;> omega
  have hA' : m ≤ A ∧ T 9 (4 * t + s) ≤ A ∧ (A = m ∨ A = T 9 (4 * t + s)) := by rw [← hA]; split <;> omega
  refine ⟨by omega, by omega, by omega, by omega, ?_⟩
  split <;> omega
theorem dmT_ext {T : Nat → Nat → Int} {g g' : Int → Int → Int} {t : Nat} {m m' : Int} : ∀ {k : Nat}, (∀ s, s < k → g (T 3 t) (arT T t s m) = g' (T 3 t) (arT T t s m')) → dmT T g t m k = dmT T g' t m' k
  | 0, _ => rfl
  | k + 1, h => by
    show (if T 8 (4 * t + k) = 0 then dmT T g t m k else mxF (dmT T g t m k) (g (T 3 t) (arT T t k m))) = (if T 8 (4 * t + k) = 0 then dmT T g' t m' k else mxF (dmT T g' t m' k) (g' (T 3 t) (arT T t k m')))
    rw [dmT_ext (fun s hs => h s (by omega)), h k (by omega)]
theorem bhT_ext {κ : Int} {T : Nat → Nat → Int} {g g' : Int → Int → Int} {t : Nat} {m m' : Int} (h : ∀ s, s < 4 → g (T 3 t) (arT T t s m) = g' (T 3 t) (arT T t s m')) : bhT κ T g t m = bhT κ T g' t m' := by
  unfold bhT
  rw [dmT_ext h]
  have e : mnT T g t m 4 = mnT T g' t m' 4 := by
    unfold mnT
    exact sm_ext (fun s hs => by rw [h s hs])
  rw [e]
theorem bsT_ext {κ : Int} {T : Nat → Nat → Int} {g g' : Int → Int → Int} {stop m m' : Int} : ∀ {n : Nat}, (∀ i, i < n → T 2 i = stop → (m ≤ lsT T i ↔ m' ≤ lsT T i) ∧ (m ≤ lsT T i → bhT κ T g i m = bhT κ T g' i m')) → bsT κ T g stop m n = bsT κ T g' stop m' n
  | 0, _ => rfl
  | n + 1, h => by
    have ih := bsT_ext (κ := κ) (T := T) (g := g) (g' := g') (stop := stop) (m := m) (m' := m') (n := n) (fun i hi => h i (by omega))
    have hn := h n (by omega)
    unfold bsT
    rw [ih]
    by_cases c : T 2 n = stop
    · have hn := hn c
      by_cases c2 : m ≤ lsT T n
      · rw [if_pos (show T 2 n = stop ∧ m ≤ lsT T n from ⟨c, c2⟩), if_pos (show T 2 n = stop ∧ m' ≤ lsT T n from ⟨c, hn.1.mp c2⟩), hn.2 c2]
      · rw [if_neg (fun q => c2 q.2), if_neg (fun q => c2 (hn.1.mpr q.2))]
    · rw [if_neg (fun q => c q.1), if_neg (fun q => c q.1)]
theorem bsT_none {κ : Int} {T : Nat → Nat → Int} {g : Int → Int → Int} {stop m : Int} : ∀ {n : Nat}, (∀ i, i < n → T 2 i = stop → ¬ m ≤ lsT T i) → bsT κ T g stop m n = (-1, wonF κ)
  | 0, _ => rfl
  | n + 1, h => by
    unfold bsT
    rw [if_neg (fun q => h n (by omega) q.1 q.2)]
    exact bsT_none (fun i hi => h i (by omega))
theorem lsT_rng {T : Nat → Nat → Int} (h : tOK T) (t : Nat) : T 6 t ≤ lsT T t ∧ lsT T t ≤ 1589 ∧ 0 ≤ lsT T t := by
  have := h.2.2.2.2.2 t
  unfold lsT
  omega
theorem WF_f {κ : Int} {T : Nat → Nat → Int} (h : tOK T) : ∀ (f f' : Nat) (stop m : Int), 0 ≤ m → 1600 ≤ m + f → 1600 ≤ m + f' → WF κ T f stop m = WF κ T f' stop m := by
  have hz : ∀ (f : Nat) (stop m : Int), 1600 ≤ m → WF κ T f stop m = if stop = T 0 0 then wogF κ m (T 0 1) else wonF κ := by
    intro f stop m hm
    match f with
    | 0 => rfl
    | f + 1 =>
      show (if stop = T 0 0 then wogF κ m (T 0 1) else (bsT κ T (WF κ T f) stop m (Int.toNat (T 0 2))).2) = _
      rw [bsT_none (fun i _ _ => by have := lsT_rng h i; omega)]
  intro f
  induction f with
  | zero =>
    intro f' stop m h0 h1 h2
    rw [hz 0 stop m (by omega), hz f' stop m (by omega)]
  | succ f ih =>
    intro f' stop m h0 h1 h2
    match f' with
    | 0 => rw [hz 0 stop m (by omega), hz (f + 1) stop m (by omega)]
    | f' + 1 =>
      show (if stop = T 0 0 then wogF κ m (T 0 1) else (bsT κ T (WF κ T f) stop m (Int.toNat (T 0 2))).2) = (if stop = T 0 0 then wogF κ m (T 0 1) else (bsT κ T (WF κ T f') stop m (Int.toNat (T 0 2))).2)
      have e : bsT κ T (WF κ T f) stop m (Int.toNat (T 0 2)) = bsT κ T (WF κ T f') stop m (Int.toNat (T 0 2)) := by
        refine bsT_ext (fun i _ _ => ⟨Iff.rfl, fun _ => bhT_ext (fun s hs => ?_)⟩)
        have ha := arT_rng h (t := i) (s := s) (m := m) hs
        exact ih f' _ _ (by omega) (by omega) (by omega)
      rw [e]
theorem WT_eq {κ : Int} {T : Nat → Nat → Int} (h : tOK T) {stop m : Int} (hm : 0 ≤ m) : WT κ T stop m = if stop = T 0 0 then wogF κ m (T 0 1) else (bsT κ T (WT κ T) stop m (Int.toNat (T 0 2))).2 := by
  unfold WT
  rw [WF_f h (Int.toNat (1600 - m)) (Int.toNat (1600 - m) + 1) stop m hm (by omega) (by omega)]
  show (if stop = T 0 0 then wogF κ m (T 0 1) else (bsT κ T (WF κ T (Int.toNat (1600 - m))) stop m (Int.toNat (T 0 2))).2) = _
  have e : bsT κ T (WF κ T (Int.toNat (1600 - m))) stop m (Int.toNat (T 0 2)) = bsT κ T (fun s a => WF κ T (Int.toNat (1600 - a)) s a) stop m (Int.toNat (T 0 2)) := by
    refine bsT_ext (fun i _ _ => ⟨Iff.rfl, fun _ => bhT_ext (fun s hs => ?_)⟩)
    have ha := arT_rng h (t := i) (s := s) (m := m) hs
    exact WF_f h _ _ _ _ (by omega) (by omega) (by omega)
  rw [e]
theorem WT_goal {κ : Int} {T : Nat → Nat → Int} (h : tOK T) {m : Int} (hm : 0 ≤ m) : WT κ T (T 0 0) m = wogF κ m (T 0 1) := by rw [WT_eq h hm, if_pos rfl]
theorem WT_late {κ : Int} {T : Nat → Nat → Int} (h : tOK T) {stop m : Int} (hg : ¬ stop = T 0 0) (hm : 1590 ≤ m) : WT κ T stop m = wonF κ := by
  rw [WT_eq h (by omega), if_neg hg, bsT_none (fun i _ _ => by have := lsT_rng h i; omega)]
theorem WT_none {κ : Int} {T : Nat → Nat → Int} (h : tOK T) {stop m : Int} (hg : ¬ stop = T 0 0) (hm : 0 ≤ m) (hn : ∀ i : Nat, (i : Int) < T 0 2 → T 2 i = stop → ¬ m ≤ lsT T i) : WT κ T stop m = wonF κ := by
  rw [WT_eq h hm, if_neg hg, bsT_none (fun i hi => hn i (by have := h.2.2.1; omega))]
/-- where no train of the stop counts, the next minute is worth the same -/
theorem WT_next {κ : Int} {T : Nat → Nat → Int} (h : tOK T) {stop m : Int} (hg : ¬ stop = T 0 0) (hm : 0 ≤ m) (hn : ∀ i : Nat, (i : Int) < T 0 2 → T 2 i = stop → ¬ (T 6 i ≤ m ∧ m ≤ lsT T i)) : WT κ T stop m = WT κ T stop (m + 1) := by
  rw [WT_eq h hm, WT_eq h (m := m + 1) (by omega), if_neg hg, if_neg hg]
  have h3 := h.2.2.1
  have e : bsT κ T (WT κ T) stop m (Int.toNat (T 0 2)) = bsT κ T (WT κ T) stop (m + 1) (Int.toNat (T 0 2)) := by
    refine bsT_ext (fun i hi hst => ?_)
    have h1 := hn i (by omega) hst
    have h2 := lsT_rng h i
    refine ⟨by omega, fun hle => bhT_ext (fun s hs => ?_)⟩
    have h6 := (h.2.2.2.2.2 i).2.2.2.2.2.2.1 s hs
    have : arT T i s m = arT T i s (m + 1) := by
      unfold arT arrF
      rw [if_neg (show ¬ T 9 (4 * i + s) < m by omega), if_neg (show ¬ T 9 (4 * i + s) < m + 1 by omega)]
    rw [this]
  rw [e]
/-! bounds -/
theorem mn_rng {T : Nat → Nat → Int} (h : tOK T) {g : Int → Int → Int} {t : Nat} {m b : Int} (ht : (t : Int) < T 0 2) (hb : 0 ≤ b) (hg : ∀ s, s < 4 → 0 ≤ g (T 3 t) (arT T t s m) ∧ g (T 3 t) (arT T t s m) ≤ b) : ∀ k, k ≤ 4 → 0 ≤ mnT T g t m k ∧ mnT T g t m k ≤ 100 * b := by
  obtain ⟨h1, h2, h3, h4, h5, h6⟩ := h
  obtain ⟨b1, b2, b3, b4, b5, b6, b7, b8⟩ := h6 t
  obtain ⟨_, _, hsum⟩ := b8 ht
  have hp : ∀ k, k < 4 → 0 ≤ T 8 (4 * t + k) * g (T 3 t) (arT T t k m) ∧ T 8 (4 * t + k) * g (T 3 t) (arT T t k m) ≤ T 8 (4 * t + k) * b := by
    intro k hk
    have hg' := hg k hk
    have hc := (b7 k hk).1
    exact ⟨Int.mul_nonneg hc.1 hg'.1, Int.mul_le_mul_of_nonneg_left hg'.2 hc.1⟩
  have p0 := hp 0 (by omega)
  have p1 := hp 1 (by omega)
  have p2 := hp 2 (by omega)
  have p3 := hp 3 (by omega)
  have hall : T 8 (4 * t + 0) * b + T 8 (4 * t + 1) * b + T 8 (4 * t + 2) * b + T 8 (4 * t + 3) * b = 100 * b := by
    rw [← Int.add_mul, ← Int.add_mul, ← Int.add_mul, Nat.add_zero, hsum]
  have q1 : mnT T g t m 1 = 0 + T 8 (4 * t + 0) * g (T 3 t) (arT T t 0 m) := rfl
  have q2 : mnT T g t m 2 = mnT T g t m 1 + T 8 (4 * t + 1) * g (T 3 t) (arT T t 1 m) := rfl
  have q3 : mnT T g t m 3 = mnT T g t m 2 + T 8 (4 * t + 2) * g (T 3 t) (arT T t 2 m) := rfl
  have q4 : mnT T g t m 4 = mnT T g t m 3 + T 8 (4 * t + 3) * g (T 3 t) (arT T t 3 m) := rfl
  have q0 : mnT T g t m 0 = 0 := rfl
  intro k hk
  rcases (show k = 0 ∨ k = 1 ∨ k = 2 ∨ k = 3 ∨ k = 4 by omega) with rfl | rfl | rfl | rfl | rfl <;> omega
theorem bsT_P {κ : Int} {T : Nat → Nat → Int} {g : Int → Int → Int} {stop m : Int} {P : Int → Prop} (h0 : P (wonF κ)) : ∀ {n : Nat}, (∀ i, i < n → m ≤ lsT T i → P (bhT κ T g i m)) → P (bsT κ T g stop m n).2
  | 0, _ => h0
  | n + 1, h => by
    have ih := bsT_P (κ := κ) (T := T) (g := g) (stop := stop) (m := m) h0 (n := n) (fun i hi => h i (by omega))
    unfold bsT
    split
    · rename_i c
      split
      · exact h n (by omega) c.2
      · exact ih
    · exact ih
theorem WF0_rng {T : Nat → Nat → Int} (h : tOK T) : ∀ (f : Nat) (stop m : Int), 0 ≤ m → m ≤ 5000 → 0 ≤ WF 0 T f stop m ∧ WF 0 T f stop m ≤ 500000 := by
  intro f
  induction f with
  | zero =>
    intro stop m h0 h1
    show 0 ≤ (if stop = T 0 0 then wogF 0 m (T 0 1) else wonF 0) ∧ (if stop = T 0 0 then wogF 0 m (T 0 1) else wonF 0) ≤ 500000
    have e1 : wogF 0 m (T 0 1) = 100 * m := rfl
    have e2 : wonF 0 = 288000 := rfl
    rw [e1, e2]
    split <;> omega
  | succ f ih =>
    intro stop m h0 h1
    show 0 ≤ (if stop = T 0 0 then wogF 0 m (T 0 1) else (bsT 0 T (WF 0 T f) stop m (Int.toNat (T 0 2))).2) ∧ (if stop = T 0 0 then wogF 0 m (T 0 1) else (bsT 0 T (WF 0 T f) stop m (Int.toNat (T 0 2))).2) ≤ 500000
    have e1 : wogF 0 m (T 0 1) = 100 * m := rfl
    rw [e1]
    split
    · omega
    · refine bsT_P (P := fun v => 0 ≤ v ∧ v ≤ 500000) ?_ ?_
      · have e2 : wonF 0 = 288000 := rfl
        rw [e2]; omega
      · intro i hi hl
        have hls := lsT_rng h i
        have hb := mn_rng h (g := WF 0 T f) (t := i) (m := m) (b := 500000) (by have := h.2.2.1; omega) (by omega) (fun s hs => by
          have ha := arT_rng h (t := i) (s := s) (m := m) hs
          exact ih _ _ (by omega) (by omega)) 4 (by omega)
        have e3 : bhT 0 T (WF 0 T f) i m = mnT T (WF 0 T f) i m 4 / 100 := rfl
        rw [e3]
        omega
theorem WF1_rng {T : Nat → Nat → Int} (h : tOK T) : ∀ (f : Nat) (stop m : Int), 0 ≤ WF 1 T f stop m ∧ WF 1 T f stop m ≤ 10000 := by
  have hw : ∀ m, 0 ≤ wogF 1 m (T 0 1) ∧ wogF 1 m (T 0 1) ≤ 10000 := by
    intro m
    show 0 ≤ (if m ≤ T 0 1 then (10000 : Int) else 0) ∧ (if m ≤ T 0 1 then (10000 : Int) else 0) ≤ 10000
    split <;> omega
  have e2 : wonF 1 = 0 := rfl
  intro f
  induction f with
  | zero =>
    intro stop m
    show 0 ≤ (if stop = T 0 0 then wogF 1 m (T 0 1) else wonF 1) ∧ (if stop = T 0 0 then wogF 1 m (T 0 1) else wonF 1) ≤ 10000
    rw [e2]
    split
    · exact hw m
    · omega
  | succ f ih =>
    intro stop m
    show 0 ≤ (if stop = T 0 0 then wogF 1 m (T 0 1) else (bsT 1 T (WF 1 T f) stop m (Int.toNat (T 0 2))).2) ∧ (if stop = T 0 0 then wogF 1 m (T 0 1) else (bsT 1 T (WF 1 T f) stop m (Int.toNat (T 0 2))).2) ≤ 10000
    split
    · exact hw m
    · refine bsT_P (P := fun v => 0 ≤ v ∧ v ≤ 10000) ?_ ?_
      · rw [e2]; omega
      · intro i hi hl
        have hb := mn_rng h (g := WF 1 T f) (t := i) (m := m) (b := 10000) (by have := h.2.2.1; omega) (by omega) (fun s hs => ih _ _) 4 (by omega)
        have e3 : bhT 1 T (WF 1 T f) i m = mnT T (WF 1 T f) i m 4 / 100 := rfl
        rw [e3]
        omega
theorem dm_rng {T : Nat → Nat → Int} {g : Int → Int → Int} {t : Nat} {m b : Int} (hb : 0 ≤ b) (hg : ∀ s, s < 4 → 0 ≤ g (T 3 t) (arT T t s m) ∧ (g (T 3 t) (arT T t s m) = 2147483647 ∨ g (T 3 t) (arT T t s m) ≤ b)) : ∀ k, k ≤ 4 → 0 ≤ dmT T g t m k ∧ (dmT T g t m k = 2147483647 ∨ dmT T g t m k ≤ b)
  | 0, _ => by show 0 ≤ (0 : Int) ∧ ((0 : Int) = 2147483647 ∨ (0 : Int) ≤ b); omega
  | k + 1, hk => by
    have ih := dm_rng hb hg k (by omega)
    have hg' := hg k (by omega)
    unfold dmT
    split
    · exact ih
    · unfold mxF; split
      · exact hg'
      · exact ih
theorem WF2_rng {T : Nat → Nat → Int} (h : tOK T) : ∀ (f : Nat) (stop m : Int), 0 ≤ m → 0 ≤ WF 2 T f stop m ∧ (WF 2 T f stop m = 2147483647 ∨ WF 2 T f stop m ≤ 2018 * ((Int.toNat (1600 - m) : Nat) : Int)) := by
  have hw : ∀ m, 0 ≤ wogF 2 m (T 0 1) ∧ (wogF 2 m (T 0 1) = 2147483647 ∨ wogF 2 m (T 0 1) = 0) := by
    intro m
    show 0 ≤ (if m ≤ T 0 1 then (0 : Int) else 2147483647) ∧ ((if m ≤ T 0 1 then (0 : Int) else 2147483647) = 2147483647 ∨ (if m ≤ T 0 1 then (0 : Int) else 2147483647) = 0)
    split <;> omega
  have e2 : wonF 2 = 2147483647 := rfl
  intro f
  induction f with
  | zero =>
    intro stop m h0
    show 0 ≤ (if stop = T 0 0 then wogF 2 m (T 0 1) else wonF 2) ∧ ((if stop = T 0 0 then wogF 2 m (T 0 1) else wonF 2) = 2147483647 ∨ (if stop = T 0 0 then wogF 2 m (T 0 1) else wonF 2) ≤ _)
    rw [e2]
    have := hw m
    split <;> omega
  | succ f ih =>
    intro stop m h0
    show 0 ≤ (if stop = T 0 0 then wogF 2 m (T 0 1) else (bsT 2 T (WF 2 T f) stop m (Int.toNat (T 0 2))).2) ∧ ((if stop = T 0 0 then wogF 2 m (T 0 1) else (bsT 2 T (WF 2 T f) stop m (Int.toNat (T 0 2))).2) = 2147483647 ∨ (if stop = T 0 0 then wogF 2 m (T 0 1) else (bsT 2 T (WF 2 T f) stop m (Int.toNat (T 0 2))).2) ≤ _)
    split
    · have := hw m; omega
    · refine bsT_P (P := fun v => 0 ≤ v ∧ (v = 2147483647 ∨ v ≤ 2018 * ((Int.toNat (1600 - m) : Nat) : Int))) ?_ ?_
      · rw [e2]; omega
      · intro i hi hl
        have hls := lsT_rng h i
        have hd := dm_rng (T := T) (g := WF 2 T f) (t := i) (m := m) (b := 2018 * ((Int.toNat (1600 - (m + 1)) : Nat) : Int)) (by omega) (fun s hs => by
          have ha := arT_rng h (t := i) (s := s) (m := m) hs
          have hi := ih (T 3 i) (arT T i s m) (by omega)
          omega) 4 (by omega)
        have h5 := (h.2.2.2.2.2 i).2.2.2.1
        have e3 : bhT 2 T (WF 2 T f) i m = if dmT T (WF 2 T f) i m 4 = 2147483647 then 2147483647 else T 5 i + dmT T (WF 2 T f) i m 4 := rfl
        rw [e3]
        split <;> omega
theorem WT0_rng {T : Nat → Nat → Int} (h : tOK T) {stop m : Int} (h0 : 0 ≤ m) (h1 : m ≤ 5000) : 0 ≤ WT 0 T stop m ∧ WT 0 T stop m ≤ 500000 := WF0_rng h _ _ _ h0 h1
theorem WT1_rng {T : Nat → Nat → Int} (h : tOK T) {stop m : Int} : 0 ≤ WT 1 T stop m ∧ WT 1 T stop m ≤ 10000 := WF1_rng h _ _ _
theorem WT2_rng {T : Nat → Nat → Int} (h : tOK T) {stop m : Int} (h0 : 0 ≤ m) : 0 ≤ WT 2 T stop m ∧ (WT 2 T stop m = 2147483647 ∨ WT 2 T stop m ≤ 3228800) := by
  have := WF2_rng h (Int.toNat (1600 - m)) stop m h0
  have e : WT 2 T stop m = WF 2 T (Int.toNat (1600 - m)) stop m := rfl
  rw [e]
  omega
/-! the minutes that count, and their places -/
def cbT (T : Nat → Nat → Int) (m : Int) : Nat → Bool
  | 0 => false
  | n + 1 => cbT T m n || decide (T 6 n ≤ m ∧ m ≤ lsT T n)
def ctT (T : Nat → Nat → Int) (m : Int) : Prop := cbT T m (Int.toNat (T 0 2)) = true
theorem cbT_iff {T : Nat → Nat → Int} {m : Int} : ∀ {n : Nat}, cbT T m n = true ↔ ∃ i, i < n ∧ T 6 i ≤ m ∧ m ≤ lsT T i
  | 0 => ⟨fun h => (nomatch h), fun ⟨i, hi, _⟩ => by omega⟩
  | n + 1 => by
    unfold cbT
    rw [Bool.or_eq_true, cbT_iff, decide_eq_true_iff]
    constructor
    · rintro (⟨i, h1, h2⟩ | h)
      · exact ⟨i, by omega, h2⟩
      · exact ⟨n, by omega, h⟩
    · rintro ⟨i, h1, h2⟩
      by_cases c : i = n
      · subst c; exact Or.inr h2
      · exact Or.inl ⟨i, by omega, h2⟩
/-- how many minutes of the last k count, by the first n trains -/
def pkT (T : Nat → Nat → Int) (n : Nat) : Nat → Int
  | 0 => 0
  | k + 1 => pkT T n k + (if cbT T (1589 - (k : Int)) n = true then 1 else 0)
def plT (T : Nat → Nat → Int) (m : Int) : Int := pkT T (Int.toNat (T 0 2)) (Int.toNat (1590 - m))
theorem pk_one (a b : Int) (hab : a ≤ b) (f : Nat → Int) (h0 : f 0 = 0) (hs : ∀ k, f (k + 1) = f k + (if a ≤ 1589 - (k : Int) ∧ 1589 - (k : Int) ≤ b then 1 else 0)) : ∀ k : Nat, f k ≤ b - a + 1 ∧ f k ≤ (if (k : Int) ≤ 1589 - b then 0 else (k : Int) - (1589 - b))
  | 0 => by rw [h0]; constructor
            · omega
            · split <;> omega
  | k + 1 => by
    have ih := pk_one a b hab f h0 hs k
    rw [hs k]
    by_cases c : a ≤ 1589 - (k : Int) ∧ 1589 - (k : Int) ≤ b
    · rw [if_pos c]
      have h2 := ih.2
      by_cases d : (k : Int) ≤ 1589 - b
      · rw [if_pos d] at h2
        refine ⟨by omega, ?_⟩
        rw [if_neg (by omega)]; omega
      · rw [if_neg d] at h2
        refine ⟨by omega, ?_⟩
        rw [if_neg (by omega)]; omega
    · rw [if_neg c]
      have h2 := ih.2
      by_cases d : (k : Int) ≤ 1589 - b
      · rw [if_pos d] at h2
        refine ⟨by omega, ?_⟩
        split <;> omega
      · rw [if_neg d] at h2
        refine ⟨by omega, ?_⟩
        rw [if_neg (by omega)]; omega
def ivT (a b : Int) : Nat → Int
  | 0 => 0
  | k + 1 => ivT a b k + (if a ≤ 1589 - (k : Int) ∧ 1589 - (k : Int) ≤ b then 1 else 0)
theorem pk_add (T : Nat → Nat → Int) (n : Nat) : ∀ k, pkT T (n + 1) k ≤ pkT T n k + ivT (T 6 n) (lsT T n) k
  | 0 => by show (0 : Int) ≤ 0 + 0; omega
  | k + 1 => by
    have ih := pk_add T n k
    show pkT T (n + 1) k + (if cbT T (1589 - (k : Int)) (n + 1) = true then 1 else 0) ≤ pkT T n k + (if cbT T (1589 - (k : Int)) n = true then 1 else 0) + (ivT (T 6 n) (lsT T n) k + (if T 6 n ≤ 1589 - (k : Int) ∧ 1589 - (k : Int) ≤ lsT T n then 1 else 0))
    have e : cbT T (1589 - (k : Int)) (n + 1) = (cbT T (1589 - (k : Int)) n || decide (T 6 n ≤ 1589 - (k : Int) ∧ 1589 - (k : Int) ≤ lsT T n)) := rfl
    rw [e]
    by_cases c1 : cbT T (1589 - (k : Int)) n = true
    · rw [c1, Bool.true_or]; simp only [if_true]; split <;> omega
    · by_cases c2 : T 6 n ≤ 1589 - (k : Int) ∧ 1589 - (k : Int) ≤ lsT T n
      · rw [if_neg c1, if_pos c2]; split <;> omega
      · rw [if_neg c1, if_neg c2, decide_eq_false c2, Bool.or_false, if_neg c1]; omega
theorem pkk_le {T : Nat → Nat → Int} (h : tOK T) : ∀ n k, pkT T n k ≤ 31 * (n : Int)
  | 0, k => by
    have : ∀ k, pkT T 0 k = 0 := by
      intro k
      induction k with
      | zero => rfl
      | succ k ih => show pkT T 0 k + (if false = true then 1 else 0) = 0; rw [ih]; rfl
    rw [this]; omega
  | n + 1, k => by
    have h1 := pkk_le h n k
    have h2 := pk_add T n k
    have h3 := pk_one (T 6 n) (lsT T n) (lsT_rng h n).1 (ivT (T 6 n) (lsT T n)) rfl (fun _ => rfl) k
    have h4 := (h.2.2.2.2.2 n).2.2.2.2.2.1
    have h5 : lsT T n = T 6 n + T 7 n := rfl
    omega
theorem pk_nn (T : Nat → Nat → Int) (n : Nat) : ∀ k, 0 ≤ pkT T n k ∧ pkT T n k ≤ k
  | 0 => by show 0 ≤ (0 : Int) ∧ (0 : Int) ≤ ((0 : Nat) : Int); omega
  | k + 1 => by
    have := pk_nn T n k
    show 0 ≤ pkT T n k + (if cbT T (1589 - (k : Int)) n = true then 1 else 0) ∧ pkT T n k + (if cbT T (1589 - (k : Int)) n = true then 1 else 0) ≤ ((k + 1 : Nat) : Int)
    split <;> omega
theorem pk_mono (T : Nat → Nat → Int) (n : Nat) {a : Nat} : ∀ {b : Nat}, a ≤ b → pkT T n a ≤ pkT T n b
  | 0, hb => by rw [show a = 0 by omega]; exact Int.le_refl _
  | b + 1, hb => by
    rcases Nat.lt_or_ge a (b + 1) with h1 | h1
    · have h2 := pk_mono T n (a := a) (b := b) (by omega)
      have h3 : pkT T n (b + 1) = pkT T n b + (if cbT T (1589 - (b : Int)) n = true then 1 else 0) := rfl
      rw [h3]
      split <;> omega
    · rw [show a = b + 1 by omega]; exact Int.le_refl _
theorem plT_rng {T : Nat → Nat → Int} (h : tOK T) (m : Int) : 0 ≤ plT T m ∧ plT T m ≤ 372 := by
  have h1 := pkk_le h (Int.toNat (T 0 2)) (Int.toNat (1590 - m))
  have h2 := pk_nn T (Int.toNat (T 0 2)) (Int.toNat (1590 - m))
  have h3 := h.2.2.1
  unfold plT
  omega
theorem plT_s {T : Nat → Nat → Int} {m : Int} (h1 : m ≤ 1589) : plT T m = plT T (m + 1) + (if cbT T m (Int.toNat (T 0 2)) = true then 1 else 0) := by
  unfold plT
  obtain ⟨k, hk⟩ : ∃ k : Nat, Int.toNat (1590 - m) = k + 1 := ⟨Int.toNat (1590 - m) - 1, by omega⟩
  rw [hk, show Int.toNat (1590 - (m + 1)) = k by omega]
  show pkT T _ k + (if cbT T (1589 - (k : Int)) _ = true then 1 else 0) = _
  rw [show 1589 - (k : Int) = m by omega]
theorem plT_mono {T : Nat → Nat → Int} {a b : Int} (h : a ≤ b) : plT T b ≤ plT T a := pk_mono T _ (by omega)
/-- minutes of one place are worth the same -/
theorem WT_place {κ : Int} {T : Nat → Nat → Int} (h : tOK T) {stop : Int} (hg : ¬ stop = T 0 0) : ∀ (k : Nat) (m : Int), 0 ≤ m → m + k ≤ 1590 → plT T m = plT T (m + k) → WT κ T stop m = WT κ T stop (m + k)
  | 0, m, _, _, _ => by rw [show m + ((0 : Nat) : Int) = m by omega]
  | k + 1, m, h0, h1, hp => by
    have hm1 : plT T (m + ((k + 1 : Nat) : Int)) ≤ plT T (m + 1) := plT_mono (by omega)
    have hm2 := plT_s (T := T) (m := m) (by omega)
    have hc : ¬ cbT T m (Int.toNat (T 0 2)) = true := by
      intro hc
      rw [if_pos hc] at hm2
      omega
    rw [if_neg hc] at hm2
    have e1 : WT κ T stop m = WT κ T stop (m + 1) := WT_next h hg h0 (fun i hi hst hcc => hc (cbT_iff.mpr ⟨i, by omega, hcc⟩))
    have e2 := WT_place (κ := κ) h hg k (m + 1) (by omega) (by omega) (by rw [show m + 1 + (k : Int) = m + ((k + 1 : Nat) : Int) by omega]; omega)
    rw [e1, e2, show m + 1 + (k : Int) = m + ((k + 1 : Nat) : Int) by omega]
theorem WT_p0 {κ : Int} {T : Nat → Nat → Int} (h : tOK T) {stop m : Int} (hg : ¬ stop = T 0 0) (h0 : 0 ≤ m) (h1 : m ≤ 1589) (hp : plT T m = 0) : WT κ T stop m = wonF κ := by
  have h2 : plT T 1590 = 0 := rfl
  have e := WT_place (κ := κ) h hg (Int.toNat (1590 - m)) m h0 (by omega) (by rw [show m + ((Int.toNat (1590 - m) : Nat) : Int) = 1590 by omega, h2, hp])
  rw [show m + ((Int.toNat (1590 - m) : Nat) : Int) = 1590 by omega] at e
  rw [e, WT_late h hg (by omega)]
