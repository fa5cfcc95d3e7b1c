theorem SHE_m {h H : Nat → Nat → Int} {s0 p0 : Nat} {v : Int} (hs : s0 < 4) (hp : p0 < 24) (e1 : H (90 + 2 * s0 + 1) p0 = v) (e2 : ∀ k, k ≠ p0 → H (90 + 2 * s0 + 1) k = h (90 + 2 * s0 + 1) k) (e3 : ∀ c, 90 ≤ c → c < 98 → c ≠ 90 + 2 * s0 + 1 → H c = h c) (e5 : H 145 = h 145) (e6 : H 146 = h 146) (e7 : H 147 (24 * s0 + p0) = v) (e8 : ∀ k, k ≠ 24 * s0 + p0 → H 147 k = h 147 k) (q : SHE h) : SHE H := by
  intro s hs4
  have q1 := q s hs4
  rw [e3 (90 + 2 * s) (by omega) (by omega) (by omega), e5, e6]
  refine ⟨q1.1, q1.2.1, q1.2.2.1, q1.2.2.2.1, fun k hk => ?_⟩
  by_cases c : s = s0
  · subst c
    by_cases c2 : k = p0
    · subst c2; rw [e1, e7]
    · rw [e2 k c2, e8 _ (by omega)]; exact q1.2.2.2.2 k hk
  · rw [e3 (90 + 2 * s + 1) (by omega) (by omega) (by omega), e8 _ (by omega)]; exact q1.2.2.2.2 k hk
theorem SHE_b {h H : Nat → Nat → Int} {s0 : Nat} {so sz : Int} (hs : s0 < 4) (hso : -1 ≤ so ∧ so ≤ 1) (hsz : 0 ≤ sz ∧ sz ≤ 24) (e0 : H (90 + 2 * s0) 0 = so) (e1 : H (90 + 2 * s0) 1 = sz) (e2 : ∀ k, k < 24 → H (90 + 2 * s0 + 1) k = 0) (e3 : ∀ c, 90 ≤ c → c < 98 → c ≠ 90 + 2 * s0 → c ≠ 90 + 2 * s0 + 1 → H c = h c) (e5 : H 145 s0 = so) (e5o : ∀ k, k ≠ s0 → H 145 k = h 145 k) (e6 : H 146 s0 = sz) (e6o : ∀ k, k ≠ s0 → H 146 k = h 146 k) (e7 : ∀ k, k < 24 → H 147 (24 * s0 + k) = 0) (e8 : ∀ k, k < 24 * s0 ∨ 24 * s0 + 24 ≤ k → H 147 k = h 147 k) (q : SHE h) : SHE H := by
  intro s hs4
  by_cases c : s = s0
  · subst c
    rw [e0, e1, e5, e6]
    exact ⟨rfl, rfl, hso, hsz, fun k hk => by rw [e2 k hk, e7 k hk]⟩
  · have q1 := q s hs4
    rw [e3 (90 + 2 * s) (by omega) (by omega) (by omega) (by omega), e3 (90 + 2 * s + 1) (by omega) (by omega) (by omega) (by omega), e5o s c, e6o s c]
    exact ⟨q1.1, q1.2.1, q1.2.2.1, q1.2.2.2.1, fun k hk => by rw [e8 _ (by omega)]; exact q1.2.2.2.2 k hk⟩
theorem SHE_c {h H : Nat → Nat → Int} {a0 b0 p q m : Nat} (ha : a0 < 4) (hb : b0 < 4) (hp : p + m ≤ 24) (hq : q + m ≤ 24) (e1 : ∀ k, k < 24 → H (90 + 2 * b0 + 1) k = if q ≤ k ∧ k < q + m then h (90 + 2 * a0 + 1) (p + (k - q)) else h (90 + 2 * b0 + 1) k) (e3 : ∀ c, 90 ≤ c → c < 98 → c ≠ 90 + 2 * b0 + 1 → H c = h c) (e5 : H 145 = h 145) (e6 : H 146 = h 146) (e7 : ∀ k, H 147 k = if 24 * b0 + q ≤ k ∧ k < 24 * b0 + q + m then h 147 (24 * a0 + p + (k - (24 * b0 + q))) else h 147 k) (w : SHE h) : SHE H := by
  intro s hs4
  have q1 := w s hs4
  rw [e3 (90 + 2 * s) (by omega) (by omega) (by omega), e5, e6]
  refine ⟨q1.1, q1.2.1, q1.2.2.1, q1.2.2.2.1, fun k hk => ?_⟩
  rw [e7]
  by_cases c : s = b0
  · subst c
    rw [e1 k hk]
    by_cases c2 : q ≤ k ∧ k < q + m
    · rw [if_pos c2, if_pos (by omega), show 24 * a0 + p + (24 * s + k - (24 * s + q)) = 24 * a0 + (p + (k - q)) by omega]
      exact (w a0 ha).2.2.2.2 _ (by omega)
    · rw [if_neg c2, if_neg (by omega)]; exact q1.2.2.2.2 k hk
  · rw [e3 (90 + 2 * s + 1) (by omega) (by omega) (by omega), if_neg (by omega)]; exact q1.2.2.2.2 k hk
