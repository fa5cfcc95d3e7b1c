/-! WHAT THE CALLS THAT CHANGE THE WORLD DO TO IT (the row of the reference is h' 124) -/
theorem W_stop {h h' : Nat → Nat → Int} {τ : List AC} {N : Nat → Int} {s0 : Nat} {w : Int} (hX : NX N) (hR : WR h τ 1 N) (h4 : N 4 = (s0 : Int)) (h6 : s0 < 6) (hw : 0 ≤ w ∧ w ≤ 99) (a1 : ∀ k, k ≠ 0 → k ≠ 1 → h' 1 k = h 1 k) (a2 : h' 1 1 = (s0 : Int) + 1) (a3 : h' 2 s0 = w) (a4 : ∀ k, k ≠ s0 → h' 2 k = h 2 k) (a5 : ∀ c, 3 ≤ c → c < 32 → h' c = h c) (n1 : h' 124 4 = (s0 : Int) + 1) (n2 : h' 124 (9 + s0) = w) (n3 : ∀ k, k ≠ 4 → k ≠ 9 + s0 → h' 124 k = N k) : NX (h' 124) ∧ WR h' τ 1 (h' 124) := by
  obtain ⟨⟨⟨b1, b2, b3, b4, b5⟩, c, d, e⟩, f, g, i, j⟩ := hX
  obtain ⟨⟨r1, r2, r3, r4, r5, r6, r7, r8, r9⟩, s, t, u, v, x⟩ := hR
  have m : ∀ k, k < 9 → k ≠ 4 → h' 124 k = N k := fun k h1 h2 => n3 k h2 (by omega)
  have m2 : ∀ k, 15 ≤ k → h' 124 k = N k := fun k h1 => n3 k (by omega) (by omega)
  refine ⟨⟨⟨⟨by rw [m 1 (by omega) (by omega)]; exact b1, by rw [m 2 (by omega) (by omega)]; exact b2, by rw [m 3 (by omega) (by omega)]; exact b3, by rw [n1]; omega, by rw [m 5 (by omega) (by omega)]; exact b5⟩, ?_, X_tr (m 5 (by omega) (by omega)) (by omega) (by rw [n1]; omega) (fun k h1 _ => m2 k h1) d, X_tx (m 6 (by omega) (by omega)) (fun k h1 => m2 k (by omega)) e⟩, by rw [m 7 (by omega) (by omega)]; exact f, X_pl (m 7 (by omega) (by omega)) (by omega) (by rw [m 5 (by omega) (by omega)]; omega) (fun k h1 _ => m2 k (by omega)) g, by rw [m 8 (by omega) (by omega)]; exact i, X_gu (m 8 (by omega) (by omega)) (by omega) (by rw [n1]; omega) (fun k h1 _ => m2 k (by omega)) j⟩, ⟨?_, ?_, P_tr (fun k h1 h2 => a5 k (by omega) h2) (m 5 (by omega) (by omega)) (by omega) (fun k h1 _ => m2 k h1) t, P_tx (a5 4 (by omega) (by omega)) (m 6 (by omega) (by omega)) (fun k h1 => m2 k (by omega)) u, P_pl (a5 5 (by omega) (by omega)) (m 7 (by omega) (by omega)) (by omega) (fun k h1 _ => m2 k (by omega)) v, P_gu (a5 6 (by omega) (by omega)) (a5 7 (by omega) (by omega)) (m 8 (by omega) (by omega)) (by omega) (fun k h1 _ => m2 k (by omega)) x⟩⟩
  · intro k hk
    by_cases q : k = s0
    · subst q; rw [n2]; exact hw
    · rw [n3 _ (by omega) (by omega)]; exact c k hk
  · refine ⟨by rw [a2, n1], ?_, ?_, ?_, ?_, ?_, ?_, ?_, ?_⟩
    · rw [a1 3 (by decide) (by decide), m 5 (by omega) (by omega)]; exact r2
    · rw [a1 5 (by decide) (by decide), m 6 (by omega) (by omega)]; exact r3
    · rw [a1 7 (by decide) (by decide), m 7 (by omega) (by omega)]; exact r4
    · rw [a1 9 (by decide) (by decide), m 2 (by omega) (by omega)]; exact r5
    · rw [a1 10 (by decide) (by decide), m 3 (by omega) (by omega)]; exact r6
    · rw [a1 11 (by decide) (by decide), m 1 (by omega) (by omega)]; exact r7
    · rw [a1 12 (by decide) (by decide), m 8 (by omega) (by omega)]; exact r8
    · rw [a1 15 (by decide) (by decide), m 0 (by omega) (by omega)]; exact r9
  · intro k hk
    rw [n1] at hk
    by_cases q : k = s0
    · subst q; rw [n2]; exact a3
    · rw [n3 _ (by omega) (by omega)]; exact (a4 k q).trans (s k (by omega))
/-- only scalars have changed -/
theorem W_sc {h h' : Nat → Nat → Int} {τ : List AC} {N : Nat → Int} (hX : NX N) (hR : WR h τ 1 N) (a5 : ∀ c, 2 ≤ c → c < 32 → h' c = h c) (sc : scR h' 1 (h' 124)) (n4 : h' 124 4 = N 4) (n5 : h' 124 5 = N 5) (n6 : h' 124 6 = N 6) (n7 : 0 ≤ h' 124 7 ∧ h' 124 7 ≤ N 7) (n8 : 0 ≤ h' 124 8 ∧ h' 124 8 ≤ N 8) (nk : ∀ k, 9 ≤ k → h' 124 k = N k) (hs : scOK (h' 124)) : NX (h' 124) ∧ WR h' τ 1 (h' 124) := by
  obtain ⟨⟨⟨b1, b2, b3, b4, b5⟩, c, d, e⟩, f, g, i, j⟩ := hX
  obtain ⟨_, s, t, u, v, x⟩ := hR
  refine ⟨⟨⟨hs, X_st (fun k h1 _ => nk k h1) c, X_tr n5 (by omega) (by omega) (fun k h1 _ => nk k (by omega)) d, X_tx n6 (fun k h1 => nk k (by omega)) e⟩, by omega, ?_, by omega, ?_⟩, ⟨sc, P_st (a5 2 (by omega) (by omega)) n4 (by omega) (fun k h1 _ => nk k h1) s, P_tr (fun k h1 h2 => a5 k (by omega) h2) n5 (by omega) (fun k h1 _ => nk k (by omega)) t, P_tx (a5 4 (by omega) (by omega)) n6 (fun k h1 => nk k (by omega)) u, ?_, ?_⟩⟩
  · intro k hk; have := g k (by omega); rw [nk _ (by omega)]; omega
  · intro k hk; have := j k (by omega); rw [nk (153 + 2 * k) (by omega), nk (153 + 2 * k + 1) (by omega)]; omega
  · intro k hk; rw [show h' (1 + 4) = h 5 from a5 5 (by omega) (by omega), nk _ (by omega)]; exact v k (by omega)
  · intro k hk; rw [show h' (1 + 5) = h 6 from a5 6 (by omega) (by omega), show h' (1 + 6) = h 7 from a5 7 (by omega) (by omega), nk (153 + 2 * k) (by omega), nk (153 + 2 * k + 1) (by omega)]; exact x k (by omega)
theorem W_add {h h' : Nat → Nat → Int} {τ : List AC} {N : Nat → Int} {p0 : Nat} {t : Int} (hX : NX N) (hR : WR h τ 1 N) (h7 : N 7 = (p0 : Int)) (h6 : p0 < 6) (ht : 0 ≤ t ∧ t < N 5) (a1 : ∀ k, k ≠ 7 → h' 1 k = h 1 k) (a2 : h' 1 7 = (p0 : Int) + 1) (a3 : h' 5 p0 = t) (a4 : ∀ k, k ≠ p0 → h' 5 k = h 5 k) (a5 : ∀ c, 2 ≤ c → c < 32 → c ≠ 5 → h' c = h c) (n1 : h' 124 7 = (p0 : Int) + 1) (n2 : h' 124 (147 + p0) = t) (n3 : ∀ k, k ≠ 7 → k ≠ 147 + p0 → h' 124 k = N k) : NX (h' 124) ∧ WR h' τ 1 (h' 124) ∧ VE N (h' 124) := by
  obtain ⟨⟨⟨b1, b2, b3, b4, b5⟩, c, d, e⟩, f, g, i, j⟩ := hX
  obtain ⟨⟨r1, r2, r3, r4, r5, r6, r7, r8, r9⟩, s, tt', u, v, x⟩ := hR
  have m : ∀ k, k < 147 → k ≠ 7 → h' 124 k = N k := fun k h1 h2 => n3 k h2 (by omega)
  have m2 : ∀ k, 153 ≤ k → h' 124 k = N k := fun k h1 => n3 k (by omega) (by omega)
  refine ⟨⟨⟨⟨by rw [m 1 (by omega) (by omega)]; exact b1, by rw [m 2 (by omega) (by omega)]; exact b2, by rw [m 3 (by omega) (by omega)]; exact b3, by rw [m 4 (by omega) (by omega)]; exact b4, by rw [m 5 (by omega) (by omega)]; exact b5⟩, X_st (fun k h1 _ => m k (by omega) (by omega)) c, X_tr (m 5 (by omega) (by omega)) (by omega) (by rw [m 4 (by omega) (by omega)]; omega) (fun k h1 h2 => m k h2 (by omega)) d, X_tx (m 6 (by omega) (by omega)) (fun k h1 => m2 k (by omega)) e⟩, by rw [n1]; omega, ?_, by rw [m 8 (by omega) (by omega)]; exact i, X_gu (m 8 (by omega) (by omega)) (by omega) (by rw [m 4 (by omega) (by omega)]; omega) (fun k h1 _ => m2 k (by omega)) j⟩, ⟨?_, P_st (a5 2 (by omega) (by omega) (by omega)) (m 4 (by omega) (by omega)) (by omega) (fun k h1 _ => m k (by omega) (by omega)) s, P_tr (fun k h1 h2 => a5 k (by omega) h2 (by omega)) (m 5 (by omega) (by omega)) (by omega) (fun k h1 h2 => m k h2 (by omega)) tt', P_tx (a5 4 (by omega) (by omega) (by omega)) (m 6 (by omega) (by omega)) (fun k h1 => m2 k (by omega)) u, ?_, P_gu (a5 6 (by omega) (by omega) (by omega)) (a5 7 (by omega) (by omega) (by omega)) (m 8 (by omega) (by omega)) (by omega) (fun k h1 _ => m2 k (by omega)) x⟩, ?_⟩
  · intro k hk
    rw [n1] at hk
    rw [m 5 (by omega) (by omega)]
    by_cases q : k = p0
    · subst q; rw [n2]; exact ht
    · rw [n3 _ (by omega) (by omega)]; exact g k (by omega)
  · refine ⟨?_, ?_, ?_, by rw [a2, n1], ?_, ?_, ?_, ?_, ?_⟩
    · rw [a1 1 (by decide), m 4 (by omega) (by omega)]; exact r1
    · rw [a1 3 (by decide), m 5 (by omega) (by omega)]; exact r2
    · rw [a1 5 (by decide), m 6 (by omega) (by omega)]; exact r3
    · rw [a1 9 (by decide), m 2 (by omega) (by omega)]; exact r5
    · rw [a1 10 (by decide), m 3 (by omega) (by omega)]; exact r6
    · rw [a1 11 (by decide), m 1 (by omega) (by omega)]; exact r7
    · rw [a1 12 (by decide), m 8 (by omega) (by omega)]; exact r8
    · rw [a1 15 (by decide), m 0 (by omega) (by omega)]; exact r9
  · intro k hk
    rw [n1] at hk
    by_cases q : k = p0
    · subst q; rw [n2]; exact a3
    · rw [n3 _ (by omega) (by omega)]; exact (a4 k q).trans (v k (by omega))
  · intro k _ _ h2 _ h4
    exact (n3 k h2 (by omega)).symm
theorem W_guest {h h' : Nat → Nat → Int} {τ : List AC} {N : Nat → Int} {g0 : Nat} {s m : Int} (hX : NX N) (hR : WR h τ 1 N) (h8 : N 8 = (g0 : Int)) (h10 : g0 < 10) (hs : 0 ≤ s ∧ s < N 4) (hm : 0 ≤ m ∧ m ≤ 1439) (a1 : ∀ k, k ≠ 12 → h' 1 k = h 1 k) (a2 : h' 1 12 = (g0 : Int) + 1) (a3 : h' 6 g0 = s) (a4 : ∀ k, k ≠ g0 → h' 6 k = h 6 k) (a6 : h' 7 g0 = m) (a7 : ∀ k, k ≠ g0 → h' 7 k = h 7 k) (a5 : ∀ c, 2 ≤ c → c < 32 → c ≠ 6 → c ≠ 7 → h' c = h c) (n1 : h' 124 8 = (g0 : Int) + 1) (n2 : h' 124 (153 + 2 * g0) = s) (n4 : h' 124 (153 + 2 * g0 + 1) = m) (n3 : ∀ k, k ≠ 8 → k ≠ 153 + 2 * g0 → k ≠ 153 + 2 * g0 + 1 → h' 124 k = N k) : NX (h' 124) ∧ WR h' τ 1 (h' 124) ∧ VE N (h' 124) := by
  obtain ⟨⟨⟨b1, b2, b3, b4, b5⟩, c, d, e⟩, f, g, i, j⟩ := hX
  obtain ⟨⟨r1, r2, r3, r4, r5, r6, r7, r8, r9⟩, st, tt', u, v, x⟩ := hR
  have q0 : ∀ k, k < 153 → k ≠ 8 → h' 124 k = N k := fun k h1 h2 => n3 k h2 (by omega) (by omega)
  have q2 : ∀ k, 173 ≤ k → h' 124 k = N k := fun k h1 => n3 k (by omega) (by omega) (by omega)
  refine ⟨⟨⟨⟨by rw [q0 1 (by omega) (by omega)]; exact b1, by rw [q0 2 (by omega) (by omega)]; exact b2, by rw [q0 3 (by omega) (by omega)]; exact b3, by rw [q0 4 (by omega) (by omega)]; exact b4, by rw [q0 5 (by omega) (by omega)]; exact b5⟩, X_st (fun k h1 _ => q0 k (by omega) (by omega)) c, X_tr (q0 5 (by omega) (by omega)) (by omega) (by rw [q0 4 (by omega) (by omega)]; omega) (fun k h1 h2 => q0 k (by omega) (by omega)) d, X_tx (q0 6 (by omega) (by omega)) (fun k h1 => q2 k (by omega)) e⟩, by rw [q0 7 (by omega) (by omega)]; exact f, X_pl (q0 7 (by omega) (by omega)) (by omega) (by rw [q0 5 (by omega) (by omega)]; omega) (fun k h1 h2 => q0 k h2 (by omega)) g, by rw [n1]; omega, ?_⟩, ⟨?_, P_st (a5 2 (by omega) (by omega) (by omega) (by omega)) (q0 4 (by omega) (by omega)) (by omega) (fun k h1 _ => q0 k (by omega) (by omega)) st, P_tr (fun k h1 h2 => a5 k (by omega) h2 (by omega) (by omega)) (q0 5 (by omega) (by omega)) (by omega) (fun k h1 h2 => q0 k (by omega) (by omega)) tt', P_tx (a5 4 (by omega) (by omega) (by omega) (by omega)) (q0 6 (by omega) (by omega)) (fun k h1 => q2 k (by omega)) u, P_pl (a5 5 (by omega) (by omega) (by omega) (by omega)) (q0 7 (by omega) (by omega)) (by omega) (fun k h1 h2 => q0 k h2 (by omega)) v, ?_⟩, ?_⟩
  · intro k hk
    rw [n1] at hk
    rw [q0 4 (by omega) (by omega)]
    by_cases q : k = g0
    · subst q; rw [n2, n4]; exact ⟨hs, hm⟩
    · rw [n3 (153 + 2 * k) (by omega) (by omega) (by omega), n3 (153 + 2 * k + 1) (by omega) (by omega) (by omega)]; exact j k (by omega)
  · refine ⟨?_, ?_, ?_, ?_, ?_, ?_, ?_, by rw [a2, n1], ?_⟩
    · rw [a1 1 (by decide), q0 4 (by omega) (by omega)]; exact r1
    · rw [a1 3 (by decide), q0 5 (by omega) (by omega)]; exact r2
    · rw [a1 5 (by decide), q0 6 (by omega) (by omega)]; exact r3
    · rw [a1 7 (by decide), q0 7 (by omega) (by omega)]; exact r4
    · rw [a1 9 (by decide), q0 2 (by omega) (by omega)]; exact r5
    · rw [a1 10 (by decide), q0 3 (by omega) (by omega)]; exact r6
    · rw [a1 11 (by decide), q0 1 (by omega) (by omega)]; exact r7
    · rw [a1 15 (by decide), q0 0 (by omega) (by omega)]; exact r9
  · intro k hk
    rw [n1] at hk
    by_cases q : k = g0
    · subst q; rw [n2, n4]; exact ⟨a3, a6⟩
    · rw [n3 (153 + 2 * k) (by omega) (by omega) (by omega), n3 (153 + 2 * k + 1) (by omega) (by omega) (by omega)]
      have := x k (by omega)
      exact ⟨(a4 k q).trans this.1, (a7 k q).trans this.2⟩
  · intro k _ _ _ h2 h4
    exact (n3 k h2 (by omega) (by omega)).symm
/-- the row of one train has changed -/
theorem W_tr {h h' : Nat → Nat → Int} {τ : List AC} {N : Nat → Int} {t0 : Nat} (hX : NX N) (hR : WR h τ 1 N) (ht : (t0 : Int) < N 5) (a1 : ∀ k, k ≠ 0 → h' 1 k = h 1 k) (a5 : ∀ c, 2 ≤ c → c < 32 → c ≠ 8 + 2 * t0 → c ≠ 8 + 2 * t0 + 1 → h' c = h c) (n3 : ∀ k, k < 15 + 11 * t0 ∨ 15 + 11 * t0 + 11 ≤ k → h' 124 k = N k) (hr : trR (h' 124) t0) (hw : trW h' (8 + 2 * t0) (h' 124) t0) : NX (h' 124) ∧ WR h' τ 1 (h' 124) := by
  obtain ⟨⟨⟨b1, b2, b3, b4, b5⟩, c, d, e⟩, f, g, i, j⟩ := hX
  obtain ⟨⟨r1, r2, r3, r4, r5, r6, r7, r8, r9⟩, st, tt', u, v, x⟩ := hR
  have m : ∀ k, k < 15 → h' 124 k = N k := fun k h1 => n3 k (by omega)
  have m2 : ∀ k, 147 ≤ k → h' 124 k = N k := fun k h1 => n3 k (by omega)
  refine ⟨⟨⟨⟨by rw [m 1 (by omega)]; exact b1, by rw [m 2 (by omega)]; exact b2, by rw [m 3 (by omega)]; exact b3, by rw [m 4 (by omega)]; exact b4, by rw [m 5 (by omega)]; exact b5⟩, X_st (fun k h1 h2 => m k h2) c, ?_, X_tx (m 6 (by omega)) (fun k h1 => m2 k (by omega)) e⟩, by rw [m 7 (by omega)]; exact f, X_pl (m 7 (by omega)) (by omega) (by rw [m 5 (by omega)]; omega) (fun k h1 _ => m2 k h1) g, by rw [m 8 (by omega)]; exact i, X_gu (m 8 (by omega)) (by omega) (by rw [m 4 (by omega)]; omega) (fun k h1 _ => m2 k (by omega)) j⟩, ⟨?_, P_st (a5 2 (by omega) (by omega) (by omega) (by omega)) (m 4 (by omega)) (by omega) (fun k h1 h2 => m k h2) st, ?_, P_tx (a5 4 (by omega) (by omega) (by omega) (by omega)) (m 6 (by omega)) (fun k h1 => m2 k (by omega)) u, P_pl (a5 5 (by omega) (by omega) (by omega) (by omega)) (m 7 (by omega)) (by omega) (fun k h1 _ => m2 k h1) v, P_gu (a5 6 (by omega) (by omega) (by omega) (by omega)) (a5 7 (by omega) (by omega) (by omega) (by omega)) (m 8 (by omega)) (by omega) (fun k h1 _ => m2 k (by omega)) x⟩⟩
  · intro t h1
    rw [m 5 (by omega)] at h1
    by_cases q : t = t0
    · subst q; exact hr
    · have q1 := d t h1
      unfold trR at *
      rw [m 4 (by omega), n3 (15 + 11 * t) (by omega), n3 (16 + 11 * t) (by omega), n3 (17 + 11 * t) (by omega), n3 (18 + 11 * t) (by omega), n3 (19 + 11 * t) (by omega), n3 (20 + 11 * t) (by omega), n3 (21 + 11 * t) (by omega), n3 (22 + 11 * t) (by omega), n3 (22 + 11 * t + 1) (by omega), n3 (22 + 11 * t + 2) (by omega), n3 (22 + 11 * t + 3) (by omega)]
      exact q1
  · refine ⟨?_, ?_, ?_, ?_, ?_, ?_, ?_, ?_, ?_⟩
    · rw [a1 1 (by decide), m 4 (by omega)]; exact r1
    · rw [a1 3 (by decide), m 5 (by omega)]; exact r2
    · rw [a1 5 (by decide), m 6 (by omega)]; exact r3
    · rw [a1 7 (by decide), m 7 (by omega)]; exact r4
    · rw [a1 9 (by decide), m 2 (by omega)]; exact r5
    · rw [a1 10 (by decide), m 3 (by omega)]; exact r6
    · rw [a1 11 (by decide), m 1 (by omega)]; exact r7
    · rw [a1 12 (by decide), m 8 (by omega)]; exact r8
    · rw [a1 15 (by decide), m 0 (by omega)]; exact r9
  · intro t h1
    rw [m 5 (by omega)] at h1
    by_cases q : t = t0
    · subst q; exact hw
    · have q1 := tt' t h1
      unfold trW at *
      rw [a5 (1 + 7 + 2 * t) (by omega) (by omega) (by omega) (by omega), a5 (1 + 7 + 2 * t + 1) (by omega) (by omega) (by omega) (by omega), n3 (15 + 11 * t) (by omega), n3 (16 + 11 * t) (by omega), n3 (17 + 11 * t) (by omega), n3 (18 + 11 * t) (by omega), n3 (19 + 11 * t) (by omega), n3 (20 + 11 * t) (by omega), n3 (21 + 11 * t) (by omega)]
      exact ⟨q1.1, q1.2.1, q1.2.2.1, q1.2.2.2.1, q1.2.2.2.2.1, q1.2.2.2.2.2.1, q1.2.2.2.2.2.2.1, fun s hs => by rw [n3 _ (by omega)]; exact q1.2.2.2.2.2.2.2 s hs⟩
/-- one more train -/
theorem W_new {h h' : Nat → Nat → Int} {τ : List AC} {N : Nat → Int} {t0 : Nat} (hX : NX N) (hR : WR h τ 1 N) (h5 : N 5 = (t0 : Int)) (h12 : t0 < 12) (a1 : ∀ k, k ≠ 0 → k ≠ 3 → h' 1 k = h 1 k) (a2 : h' 1 3 = (t0 : Int) + 1) (a5 : ∀ c, 2 ≤ c → c < 32 → c ≠ 8 + 2 * t0 → c ≠ 8 + 2 * t0 + 1 → h' c = h c) (n1 : h' 124 5 = (t0 : Int) + 1) (n3 : ∀ k, k ≠ 5 → k < 15 + 11 * t0 ∨ 15 + 11 * t0 + 11 ≤ k → h' 124 k = N k) (hr : trR (h' 124) t0) (hw : trW h' (8 + 2 * t0) (h' 124) t0) : NX (h' 124) ∧ WR h' τ 1 (h' 124) := by
  obtain ⟨⟨⟨b1, b2, b3, b4, b5⟩, c, d, e⟩, f, g, i, j⟩ := hX
  obtain ⟨⟨r1, r2, r3, r4, r5, r6, r7, r8, r9⟩, st, tt', u, v, x⟩ := hR
  have m : ∀ k, k < 15 → k ≠ 5 → h' 124 k = N k := fun k h1 h2 => n3 k h2 (by omega)
  have m2 : ∀ k, 147 ≤ k → h' 124 k = N k := fun k h1 => n3 k (by omega) (by omega)
  refine ⟨⟨⟨⟨by rw [m 1 (by omega) (by omega)]; exact b1, by rw [m 2 (by omega) (by omega)]; exact b2, by rw [m 3 (by omega) (by omega)]; exact b3, by rw [m 4 (by omega) (by omega)]; exact b4, by rw [n1]; omega⟩, X_st (fun k h1 h2 => m k h2 (by omega)) c, ?_, X_tx (m 6 (by omega) (by omega)) (fun k h1 => m2 k (by omega)) e⟩, by rw [m 7 (by omega) (by omega)]; exact f, X_pl (m 7 (by omega) (by omega)) (by omega) (by rw [n1]; omega) (fun k h1 _ => m2 k h1) g, by rw [m 8 (by omega) (by omega)]; exact i, X_gu (m 8 (by omega) (by omega)) (by omega) (by rw [m 4 (by omega) (by omega)]; omega) (fun k h1 _ => m2 k (by omega)) j⟩, ⟨?_, P_st (a5 2 (by omega) (by omega) (by omega) (by omega)) (m 4 (by omega) (by omega)) (by omega) (fun k h1 h2 => m k h2 (by omega)) st, ?_, P_tx (a5 4 (by omega) (by omega) (by omega) (by omega)) (m 6 (by omega) (by omega)) (fun k h1 => m2 k (by omega)) u, P_pl (a5 5 (by omega) (by omega) (by omega) (by omega)) (m 7 (by omega) (by omega)) (by omega) (fun k h1 _ => m2 k h1) v, P_gu (a5 6 (by omega) (by omega) (by omega) (by omega)) (a5 7 (by omega) (by omega) (by omega) (by omega)) (m 8 (by omega) (by omega)) (by omega) (fun k h1 _ => m2 k (by omega)) x⟩⟩
  · intro t h1
    rw [n1] at h1
    by_cases q : t = t0
    · subst q; exact hr
    · have q1 := d t (by omega)
      unfold trR at *
      rw [m 4 (by omega) (by omega), n3 (15 + 11 * t) (by omega) (by omega), n3 (16 + 11 * t) (by omega) (by omega), n3 (17 + 11 * t) (by omega) (by omega), n3 (18 + 11 * t) (by omega) (by omega), n3 (19 + 11 * t) (by omega) (by omega), n3 (20 + 11 * t) (by omega) (by omega), n3 (21 + 11 * t) (by omega) (by omega), n3 (22 + 11 * t) (by omega) (by omega), n3 (22 + 11 * t + 1) (by omega) (by omega), n3 (22 + 11 * t + 2) (by omega) (by omega), n3 (22 + 11 * t + 3) (by omega) (by omega)]
      exact q1
  · refine ⟨?_, by rw [a2, n1], ?_, ?_, ?_, ?_, ?_, ?_, ?_⟩
    · rw [a1 1 (by decide) (by decide), m 4 (by omega) (by omega)]; exact r1
    · rw [a1 5 (by decide) (by decide), m 6 (by omega) (by omega)]; exact r3
    · rw [a1 7 (by decide) (by decide), m 7 (by omega) (by omega)]; exact r4
    · rw [a1 9 (by decide) (by decide), m 2 (by omega) (by omega)]; exact r5
    · rw [a1 10 (by decide) (by decide), m 3 (by omega) (by omega)]; exact r6
    · rw [a1 11 (by decide) (by decide), m 1 (by omega) (by omega)]; exact r7
    · rw [a1 12 (by decide) (by decide), m 8 (by omega) (by omega)]; exact r8
    · rw [a1 15 (by decide) (by decide), m 0 (by omega) (by omega)]; exact r9
  · intro t h1
    rw [n1] at h1
    by_cases q : t = t0
    · subst q; exact hw
    · have q1 := tt' t (by omega)
      unfold trW at *
      rw [a5 (1 + 7 + 2 * t) (by omega) (by omega) (by omega) (by omega), a5 (1 + 7 + 2 * t + 1) (by omega) (by omega) (by omega) (by omega), n3 (15 + 11 * t) (by omega) (by omega), n3 (16 + 11 * t) (by omega) (by omega), n3 (17 + 11 * t) (by omega) (by omega), n3 (18 + 11 * t) (by omega) (by omega), n3 (19 + 11 * t) (by omega) (by omega), n3 (20 + 11 * t) (by omega) (by omega), n3 (21 + 11 * t) (by omega) (by omega)]
      exact ⟨q1.1, q1.2.1, q1.2.2.1, q1.2.2.2.1, q1.2.2.2.2.1, q1.2.2.2.2.2.1, q1.2.2.2.2.2.2.1, fun s hs => by rw [n3 _ (by omega) (by omega)]; exact q1.2.2.2.2.2.2.2 s hs⟩
