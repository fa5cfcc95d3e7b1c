theorem RC_f {h h' : Nat → Nat → Int} {N : Nat → Int} (e : ∀ c, 123 ≤ c → c < 137 → h' c = h c) (q : RC h N) : RC h' N := by
  unfold RC KA KN CW dlB
  rw [e 123 (by omega) (by omega), e 127 (by omega) (by omega), e 128 (by omega) (by omega), e 129 (by omega) (by omega), e 130 (by omega) (by omega), e 133 (by omega) (by omega), e 134 (by omega) (by omega), e 135 (by omega) (by omega), e 136 (by omega) (by omega)]
  exact q
theorem IV_ride {n : Nat} {h h7 h8 : Nat → Nat → Int} {τ : List AC} {N J : Nat → Int} {z : Int} (hI : IVp n h τ N J) (F7 : Fr [0, 1, 63, 64, 65, 66, 67, 68, 69, 70, 71, 72, 73, 74, 75, 76, 77, 78, 79, 80, 81, 82, 83] h h7) (a7 : ∀ k, k ≠ 8 → h7 0 k = h 0 k) (b7 : ∀ k, k ≠ 15 → h7 1 k = h 1 k) (z7 : h7 1 15 = z) (c7 : CC h7 N J) (F8 : Fr [123, 124, 127, 128, 129, 130, 131, 132, 133, 134, 135, 136, 143, 144] h7 h8) (a8 : ∀ k, k ≠ 0 → h8 124 k = h7 124 k) (z8 : h8 124 0 = z) (k8 : K3 h7 h8) (r8 : RC h8 N) : IVp n h8 τ (h8 124) J := by
  obtain ⟨a, b, c, d, e, f, g, i, j, k⟩ := hI
  have e8 : ∀ x, x < 123 ∨ (124 < x ∧ x < 127) ∨ (136 < x ∧ x < 143) ∨ 144 < x → h8 x = h7 x := fun x hx => F8 x (by simp only [List.mem_cons, List.not_mem_nil, or_false]; omega)
  have e7 : ∀ x, (1 < x ∧ x < 63) ∨ 83 < x → h7 x = h x := fun x hx => F7 x (by simp only [List.mem_cons, List.not_mem_nil, or_false]; omega)
  have hE : ∀ k, k ≠ 0 → h8 124 k = N k := fun k hk => (a8 k hk).trans ((congrFun (e7 124 (by omega)) k).trans (congrFun a k))
  have hX := NX_e c hE
  have ht := tt_e c hE
  have r : ∀ x, (1 < x ∧ x < 63) ∨ (83 < x ∧ x < 123) → h8 x = h x := fun x hx => (e8 x (by omega)).trans (e7 x (by omega))
  have h123 : ∀ k, k ≠ 4 → k ≠ 9 → k ≠ 34 → h8 123 k = h 123 k := fun k x y w => (k8 k x y w).trans (congrFun (e7 123 (by omega)) k)
  have h0 : ∀ k, k ≠ 8 → h8 0 k = h 0 k := fun k hk => (congrFun (e8 0 (by omega)) k).trans (a7 k hk)
  have h1 : ∀ k, k ≠ 15 → h8 1 k = h 1 k := fun k hk => (congrFun (e8 1 (by omega)) k).trans (b7 k hk)
  have s4 := c.1.1.2.2.2.1
  have s5 := c.1.1.2.2.2.2
  have s7 := c.2.1
  have s8 := c.2.2.2.1
  refine ⟨rfl, (e8 125 (by omega)).trans ((e7 125 (by omega)).trans b), hX, ?_, ?_, ?_, ?_, RC_e ht r8, ?_, ?_⟩
  · obtain ⟨⟨r1, r2, r3, r4, r5, r6, r7, r8', r9⟩, s, t, u, v, x⟩ := d
    refine ⟨⟨?_, ?_, ?_, ?_, ?_, ?_, ?_, ?_, ?_⟩, P_st (r 2 (by omega)) (hE 4 (by omega)) (by omega) (fun k _ _ => hE k (by omega)) s, P_tr (fun k p q => r k (by omega)) (hE 5 (by omega)) (by omega) (fun k _ _ => hE k (by omega)) t, P_tx (r 4 (by omega)) (hE 6 (by omega)) (fun k _ => hE k (by omega)) u, P_pl (r 5 (by omega)) (hE 7 (by omega)) (by omega) (fun k _ _ => hE k (by omega)) v, P_gu (r 6 (by omega)) (r 7 (by omega)) (hE 8 (by omega)) (by omega) (fun k _ _ => hE k (by omega)) x⟩
    · rw [h1 1 (by decide), hE 4 (by decide)]; exact r1
    · rw [h1 3 (by decide), hE 5 (by decide)]; exact r2
    · rw [h1 5 (by decide), hE 6 (by decide)]; exact r3
    · rw [h1 7 (by decide), hE 7 (by decide)]; exact r4
    · rw [h1 9 (by decide), hE 2 (by decide)]; exact r5
    · rw [h1 10 (by decide), hE 3 (by decide)]; exact r6
    · rw [h1 11 (by decide), hE 1 (by decide)]; exact r7
    · rw [h1 12 (by decide), hE 8 (by decide)]; exact r8'
    · rw [z8, e8 1 (by omega)]; exact z7
  · rw [h0 2 (by decide), h123 3 (by decide) (by decide) (by decide)]; exact e
  · rw [h123 3 (by decide) (by decide) (by decide)]
    exact fun q => ⟨(f q).1, WR_g (Or.inr rfl) (by have := (f q).1.1.1.2.2.2.2; omega) (fun x p w => r x (by omega)) (f q).2⟩
  · have g8 : CC h8 N J := CC_g (congrFun (e8 0 (by omega)) 2) (congrFun (e8 0 (by omega)) 3) (congrFun (e8 1 (by omega)) 0) (congrFun (e8 32 (by omega)) 0) (fun x hx => e8 x (Or.inl ((by decide : ∀ x, x ∈ [63, 64, 65, 66, 67, 68, 69, 70, 71, 72, 73, 74, 78, 79, 80, 81, 82, 83] → x < 123) x hx))) c7
    unfold CC at *
    rw [ht]; exact g8
  · rw [h0 3 (by decide)]; exact j
  · exact OT_fr (fun x hx => (e8 x ((by decide : ∀ x, x ∈ RST → x < 123 ∨ (124 < x ∧ x < 127) ∨ (136 < x ∧ x < 143) ∨ 144 < x) x hx)).trans (e7 x (Or.inr ((by decide : ∀ x, x ∈ RST → 83 < x) x hx)))) (congrFun (r 84 (by omega)) 1) (h0 12 (by decide)) (h123 17 (by decide) (by decide) (by decide)) (h123 44 (by decide) (by decide) (by decide)) k
theorem IV_chk {n : Nat} {h h7 h8 : Nat → Nat → Int} {τ : List AC} {N J : Nat → Int} (hI : IVp n h τ N J) (F7 : Fr [0, 63, 64, 65, 66, 67, 68, 69, 70, 71, 72, 73, 74, 75, 76, 77, 78, 79, 80, 81, 82, 83] h h7) (a7 : ∀ k, k ≠ 8 → k ≠ 12 → h7 0 k = h 0 k) (z7 : h7 0 12 = 0) (c7 : CC h7 N J) (F8 : Fr [123, 126, 127, 128, 129, 130, 131, 132, 133, 134, 135, 136, 143, 144] h7 h8) (k8 : ∀ k, k ≠ 4 → k ≠ 9 → k ≠ 34 → k ≠ 44 → h8 123 k = h7 123 k) (z8 : h8 123 44 = 0) (r8 : RC h8 N) : IVp n h8 τ N J := by
  obtain ⟨a, b, c, d, e, f, g, i, j, k⟩ := hI
  have e8 : ∀ x, x < 123 ∨ (123 < x ∧ x < 126) ∨ (136 < x ∧ x < 143) ∨ 144 < x → h8 x = h7 x := fun x hx => F8 x (by simp only [List.mem_cons, List.not_mem_nil, or_false]; omega)
  have e7 : ∀ x, (0 < x ∧ x < 63) ∨ 83 < x → h7 x = h x := fun x hx => F7 x (by simp only [List.mem_cons, List.not_mem_nil, or_false]; omega)
  have r : ∀ x, (0 < x ∧ x < 63) ∨ (83 < x ∧ x < 123) ∨ (123 < x ∧ x < 126) ∨ (136 < x ∧ x < 143) ∨ 144 < x → h8 x = h x := fun x hx => (e8 x (by omega)).trans (e7 x (by omega))
  have h123 : ∀ k, k ≠ 4 → k ≠ 9 → k ≠ 34 → k ≠ 44 → h8 123 k = h 123 k := fun k x y w v => (k8 k x y w v).trans (congrFun (e7 123 (by omega)) k)
  have h0 : ∀ k, k ≠ 8 → k ≠ 12 → h8 0 k = h 0 k := fun k hk h2 => (congrFun (e8 0 (by omega)) k).trans (a7 k hk h2)
  have s5 := c.1.1.2.2.2.2
  refine ⟨(r 124 (by omega)).trans a, (r 125 (by omega)).trans b, c, WR_g (Or.inl rfl) (by omega) (fun x p w => r x (by omega)) d, ?_, ?_, ?_, r8, ?_, ?_⟩
  · rw [h0 2 (by decide) (by decide), h123 3 (by decide) (by decide) (by decide) (by decide)]; exact e
  · rw [h123 3 (by decide) (by decide) (by decide) (by decide)]
    exact fun q => ⟨(f q).1, WR_g (Or.inr rfl) (by have := (f q).1.1.1.2.2.2.2; omega) (fun x p w => r x (by omega)) (f q).2⟩
  · exact CC_g (congrFun (e8 0 (by omega)) 2) (congrFun (e8 0 (by omega)) 3) (congrFun (e8 1 (by omega)) 0) (congrFun (e8 32 (by omega)) 0) (fun x hx => e8 x (Or.inl ((by decide : ∀ x, x ∈ [63, 64, 65, 66, 67, 68, 69, 70, 71, 72, 73, 74, 78, 79, 80, 81, 82, 83] → x < 123) x hx))) c7
  · rw [h0 3 (by decide) (by decide)]; exact j
  · obtain ⟨q1, q2, q3, q4, q5⟩ := k
    refine ⟨TPE_fr (congrFun (r 84 (by omega)) 1) (r 85 (by omega)) (h123 17 (by decide) (by decide) (by decide) (by decide)) (r 137 (by omega)) q1, SHE_fr (fun x p w => r x (by omega)) (r 145 (by omega)) (r 146 (by omega)) (r 147 (by omega)) q2, SLE_fr (fun x p w => r x (by omega)) (r 148 (by omega)) (r 149 (by omega)) (r 150 (by omega)) (r 151 (by omega)) q3, ⟨?_, ?_, ?_⟩, CNE_fr (r 138 (by omega)) (r 139 (by omega)) q5⟩
    · rw [e8 0 (by omega), z7, z8]
    · rw [z8]; omega
    · rw [r 89 (by omega), r 153 (by omega)]; exact q4.2.2
theorem IV_keep {n : Nat} {h H : Nat → Nat → Int} {τ : List AC} {N J : Nat → Int} (hI : IVp n h τ N J) (F : ∀ c, ¬ (32 ≤ c ∧ c < 63) → c ≠ 0 → c ≠ 123 → c ≠ 125 → H c = h c) (a : ∀ k, k ≠ 2 → H 0 k = h 0 k) (a2 : H 0 2 = 1) (s : H 32 0 = h 1 0) (w : WR H τ 32 N) (b : ∀ k, k ≠ 3 → H 123 k = h 123 k) (b3 : H 123 3 = 1) (eJ : E5 N (H 125)) : IVp n H τ N (H 125) := by
  obtain ⟨a', b', c, d, e, f, g, i, j, k⟩ := hI
  have s5 := c.1.1.2.2.2.2
  have r : ∀ x, x < 32 ∨ 63 ≤ x → x ≠ 0 → x ≠ 123 → x ≠ 125 → H x = h x := fun x h1 h2 h3 h4 => F x (by omega) h2 h3 h4
  have ht := tt_v eJ c
  refine ⟨(r 124 (by omega) (by omega) (by omega) (by omega)).trans a', rfl, c, WR_g (Or.inl rfl) (by omega) (fun x p q => r x (by omega) (by omega) (by omega) (by omega)) d, by rw [a2, b3]; omega, fun _ => ⟨NX_v eJ c, WR_v eJ c w⟩, ?_, ?_, by rw [a 3 (by decide)]; exact j, ?_⟩
  · obtain ⟨g1, g2, g3, g4, ⟨r1, r2, r3, r4, r5, r6⟩⟩ := g
    have T1 : ∀ T, TT h T → TT H T := fun T t => by
      unfold TT TTm
      rw [r 63 (by omega) (by omega) (by omega) (by omega), r 64 (by omega) (by omega) (by omega) (by omega), r 65 (by omega) (by omega) (by omega) (by omega), r 66 (by omega) (by omega) (by omega) (by omega), r 67 (by omega) (by omega) (by omega) (by omega), r 68 (by omega) (by omega) (by omega) (by omega), r 69 (by omega) (by omega) (by omega) (by omega), r 70 (by omega) (by omega) (by omega) (by omega), r 71 (by omega) (by omega) (by omega) (by omega), r 72 (by omega) (by omega) (by omega) (by omega), r 73 (by omega) (by omega) (by omega) (by omega), r 74 (by omega) (by omega) (by omega) (by omega)]
      exact t
    unfold CC CCt CCs CCr at *
    rw [s, a 3 (by decide), r 1 (by omega) (by omega) (by omega) (by omega), r 63 (by omega) (by omega) (by omega) (by omega), r 78 (by omega) (by omega) (by omega) (by omega), r 80 (by omega) (by omega) (by omega) (by omega), r 82 (by omega) (by omega) (by omega) (by omega), ht]
    have G : (h 63 0 = h 1 0 → TT H (tt N)) ∧ (h 78 2 = h 1 0 → CHp H 78 0 (tt N) (plT (tt N) 0)) ∧ (h 80 2 = h 1 0 → CHp H 80 1 (tt N) (plT (tt N) 0)) ∧ (h 82 2 = h 1 0 → CHp H 82 2 (tt N) (plT (tt N) 0)) := ⟨fun q => T1 _ (g1.1 q), fun q => CHp_fr (r 79 (by omega) (by omega) (by omega) (by omega)) (g1.2.1 q), fun q => CHp_fr (r 81 (by omega) (by omega) (by omega) (by omega)) (g1.2.2.1 q), fun q => CHp_fr (r 83 (by omega) (by omega) (by omega) (by omega)) (g1.2.2.2 q)⟩
    exact ⟨G, fun _ => G, g3, fun _ _ => rfl, r1, r1, r3, r4, r5, r6⟩
  · unfold RC KA KN CW dlB
    rw [b 4 (by decide), b 9 (by decide), r 127 (by omega) (by omega) (by omega) (by omega), r 128 (by omega) (by omega) (by omega) (by omega), r 129 (by omega) (by omega) (by omega) (by omega), r 130 (by omega) (by omega) (by omega) (by omega), r 133 (by omega) (by omega) (by omega) (by omega), r 134 (by omega) (by omega) (by omega) (by omega), r 135 (by omega) (by omega) (by omega) (by omega), r 136 (by omega) (by omega) (by omega) (by omega)]
    exact i
  · exact OT_fr (fun x hx => r x (Or.inr ((by decide : ∀ x, x ∈ RST → 63 ≤ x) x hx)) ((by decide : ∀ x, x ∈ RST → x ≠ 0) x hx) ((by decide : ∀ x, x ∈ RST → x ≠ 123) x hx) ((by decide : ∀ x, x ∈ RST → x ≠ 125) x hx)) (congrFun (r 84 (by omega) (by omega) (by omega) (by omega)) 1) (a 12 (by decide)) (b 17 (by decide)) (b 44 (by decide)) k
theorem IV_back {n : Nat} {h H : Nat → Nat → Int} {τ : List AC} {N J : Nat → Int} (hI : IVp n h τ N J) (hk : h 123 3 = 1) (F : ∀ c, ¬ (1 ≤ c ∧ c < 32) → c ≠ 123 → c ≠ 124 → H c = h c) (s : H 1 0 = h 32 0) (w : WR H τ 1 J) (b : ∀ k, k ≠ 4 → H 123 k = h 123 k) (b4 : H 123 4 = 0) (eN : E5 J (H 124)) : IVp n H τ (H 124) J := by
  obtain ⟨a', b', c, d, e, f, g, i, j, k⟩ := hI
  obtain ⟨hXJ, hRJ⟩ := f hk
  have r : ∀ x, x = 0 ∨ 32 ≤ x → x ≠ 123 → x ≠ 124 → H x = h x := fun x h1 h2 h3 => F x (by omega) h2 h3
  have ht := tt_v eN hXJ
  have h5 := hXJ.1.1.2.2.2.2
  refine ⟨rfl, (r 125 (by omega) (by omega) (by omega)).trans b', NX_v eN hXJ, WR_v eN hXJ w, ?_, fun _ => ⟨hXJ, WR_g (Or.inr rfl) (by omega) (fun x p q => r x (by omega) (by omega) (by omega)) hRJ⟩, ?_, ?_, by rw [r 0 (by omega) (by omega) (by omega)]; exact j, ?_⟩
  · rw [r 0 (by omega) (by omega) (by omega), b 3 (by decide)]; exact e
  · obtain ⟨g1, g2, g3, g4, ⟨r1, r2, r3, r4, r5, r6⟩⟩ := g
    have hk0 : h 0 2 = 1 := e.1.trans hk
    have T1 : ∀ T, TT h T → TT H T := fun T t => by
      unfold TT TTm
      rw [r 63 (by omega) (by omega) (by omega), r 64 (by omega) (by omega) (by omega), r 65 (by omega) (by omega) (by omega), r 66 (by omega) (by omega) (by omega), r 67 (by omega) (by omega) (by omega), r 68 (by omega) (by omega) (by omega), r 69 (by omega) (by omega) (by omega), r 70 (by omega) (by omega) (by omega), r 71 (by omega) (by omega) (by omega), r 72 (by omega) (by omega) (by omega), r 73 (by omega) (by omega) (by omega), r 74 (by omega) (by omega) (by omega)]
      exact t
    have g1' := g2 hk0
    unfold CC CCt CCs CCr at *
    rw [s, r 0 (by omega) (by omega) (by omega), r 32 (by omega) (by omega) (by omega), r 63 (by omega) (by omega) (by omega), r 78 (by omega) (by omega) (by omega), r 80 (by omega) (by omega) (by omega), r 82 (by omega) (by omega) (by omega), ht]
    have G : (h 63 0 = h 32 0 → TT H (tt J)) ∧ (h 78 2 = h 32 0 → CHp H 78 0 (tt J) (plT (tt J) 0)) ∧ (h 80 2 = h 32 0 → CHp H 80 1 (tt J) (plT (tt J) 0)) ∧ (h 82 2 = h 32 0 → CHp H 82 2 (tt J) (plT (tt J) 0)) := ⟨fun q => T1 _ (g1'.1 q), fun q => CHp_fr (r 79 (by omega) (by omega) (by omega)) (g1'.2.1 q), fun q => CHp_fr (r 81 (by omega) (by omega) (by omega)) (g1'.2.2.1 q), fun q => CHp_fr (r 83 (by omega) (by omega) (by omega)) (g1'.2.2.2 q)⟩
    exact ⟨G, fun _ => G, g3, fun _ _ => rfl, r2, r2, r3, r4, r5, r6⟩
  · exact ⟨Or.inl b4, fun q => by omega, fun x hx => by rw [r 130 (by omega) (by omega) (by omega)]; exact i.2.2 x hx⟩
  · exact OT_fr (fun x hx => r x (Or.inr ((by decide : ∀ x, x ∈ RST → 32 ≤ x) x hx)) ((by decide : ∀ x, x ∈ RST → x ≠ 123) x hx) ((by decide : ∀ x, x ∈ RST → x ≠ 124) x hx)) (congrFun (r 84 (by omega) (by omega) (by omega)) 1) (congrFun (r 0 (by omega) (by omega) (by omega)) 12) (b 17 (by decide)) (b 44 (by decide)) k
