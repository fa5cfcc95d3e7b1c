/-! THE RELATION BETWEEN BOTH SIDES -/
def TPE (h : Nat → Nat → Int) : Prop := h 84 1 = h 123 17 ∧ (0 ≤ h 123 17 ∧ h 123 17 ≤ 96) ∧ ∀ k : Nat, (k : Int) < h 123 17 → and32 (h 85 k) 255 = h 137 k
def SHE (h : Nat → Nat → Int) : Prop := ∀ s : Nat, s < 4 → h (90 + 2 * s) 0 = h 145 s ∧ h (90 + 2 * s) 1 = h 146 s ∧ (-1 ≤ h 145 s ∧ h 145 s ≤ 1) ∧ (0 ≤ h 146 s ∧ h 146 s ≤ 24) ∧ ∀ k, k < 24 → h (90 + 2 * s + 1) k = h 147 (24 * s + k)
def SLE (h : Nat → Nat → Int) : Prop := ∀ s : Nat, s < 5 → h (98 + 5 * s) 0 = h 148 s ∧ (0 ≤ h 148 s ∧ h 148 s ≤ 3) ∧ (h 148 s = 1 → h (98 + 5 * s + 1) 0 = h 149 s ∧ (0 ≤ h (98 + 5 * s + 1) 5 ∧ h (98 + 5 * s + 1) 5 ≤ 999) ∧ farF (h 149 s) (h (98 + 5 * s + 1) 5) = h 150 s ∧ 0 ≤ h 149 s ∧ h 149 s ≤ 5) ∧ (h 148 s = 2 → h (98 + 5 * s + 3) 1 = h 149 s ∧ (0 ≤ h 149 s ∧ h 149 s ≤ 24) ∧ ∀ k, k < 24 → h (98 + 5 * s + 4) k = h 151 (24 * s + k)) ∧ (h 148 s = 3 → h (98 + 5 * s) 1 = h 149 s) ∧ 0 ≤ h (98 + 5 * s + 3) 1 ∧ h (98 + 5 * s + 3) 1 ≤ 24
def WTE (h : Nat → Nat → Int) : Prop := h 0 12 = h 123 44 ∧ (0 ≤ h 123 44 ∧ h 123 44 ≤ 60) ∧ h 89 = h 153
def CNE (h : Nat → Nat → Int) : Prop := (∀ k, k < 13 → h 138 k = [119, 97, 105, 116, 115, 116, 105, 100, 101, 119, 97, 108, 107].getD k 0) ∧ ∀ k, k < 4 → h 139 k = [0, 5, 9, 13].getD k 0
def OT (h : Nat → Nat → Int) : Prop := TPE h ∧ SHE h ∧ SLE h ∧ WTE h ∧ CNE h
def IVp (n : Nat) (h : Nat → Nat → Int) (τ : List AC) (N J : Nat → Int) : Prop := h 124 = N ∧ h 125 = J ∧ NX N ∧ WR h τ 1 N ∧ (h 0 2 = h 123 3 ∧ (h 123 3 = 0 ∨ h 123 3 = 1)) ∧ (h 123 3 = 1 → NX J ∧ WR h τ 32 J) ∧ CC h N J ∧ RC h N ∧ (0 ≤ h 0 3 ∧ h 0 3 ≤ (n : Int)) ∧ OT h
theorem TPE_fr {h h' : Nat → Nat → Int} (e1 : h' 84 1 = h 84 1) (e2 : h' 85 = h 85) (e3 : h' 123 17 = h 123 17) (e4 : h' 137 = h 137) (q : TPE h) : TPE h' := by
  unfold TPE; rw [e1, e2, e3, e4]; exact q
theorem SHE_fr {h h' : Nat → Nat → Int} (e : ∀ c, 90 ≤ c → c < 98 → h' c = h c) (e5 : h' 145 = h 145) (e6 : h' 146 = h 146) (e7 : h' 147 = h 147) (q : SHE h) : SHE h' := by
  intro s hs
  rw [e (90 + 2 * s) (by omega) (by omega), e (90 + 2 * s + 1) (by omega) (by omega), e5, e6, e7]
  exact q s hs
theorem SLE_fr {h h' : Nat → Nat → Int} (e : ∀ c, 98 ≤ c → c < 123 → h' c = h c) (e8 : h' 148 = h 148) (e9 : h' 149 = h 149) (e0 : h' 150 = h 150) (e1 : h' 151 = h 151) (q : SLE h) : SLE h' := by
  intro s hs
  rw [e (98 + 5 * s) (by omega) (by omega), e (98 + 5 * s + 1) (by omega) (by omega), e (98 + 5 * s + 3) (by omega) (by omega), e (98 + 5 * s + 4) (by omega) (by omega), e8, e9, e0, e1]
  exact q s hs
theorem WTE_fr {h h' : Nat → Nat → Int} (e0 : h' 0 12 = h 0 12) (e1 : h' 123 44 = h 123 44) (e2 : h' 89 = h 89) (e3 : h' 153 = h 153) (q : WTE h) : WTE h' := by
  unfold WTE; rw [e0, e1, e2, e3]; exact q
theorem CNE_fr {h h' : Nat → Nat → Int} (e8 : h' 138 = h 138) (e9 : h' 139 = h 139) (q : CNE h) : CNE h' := by
  unfold CNE; rw [e8, e9]; exact q
/-- the cells of the rest: tape, sheets, slots, rows that wait, constants -/
def RST : List Nat := [85, 89, 90, 91, 92, 93, 94, 95, 96, 97, 98, 99, 100, 101, 102, 103, 104, 105, 106, 107, 108, 109, 110, 111, 112, 113, 114, 115, 116, 117, 118, 119, 120, 121, 122, 137, 138, 139, 145, 146, 147, 148, 149, 150, 151, 153]
theorem RST_in {c : Nat} (h : (89 ≤ c ∧ c < 123) ∨ c = 85 ∨ (137 ≤ c ∧ c ≤ 139) ∨ (145 ≤ c ∧ c ≤ 151) ∨ c = 153) : c ∈ RST := by
  unfold RST
  simp only [List.mem_cons, List.not_mem_nil, or_false]
  omega
theorem OT_fr {h h' : Nat → Nat → Int} (e : ∀ c, c ∈ RST → h' c = h c) (e84 : h' 84 1 = h 84 1) (e12 : h' 0 12 = h 0 12) (e17 : h' 123 17 = h 123 17) (e44 : h' 123 44 = h 123 44) (q : OT h) : OT h' := by
  obtain ⟨q1, q2, q3, q4, q5⟩ := q
  have r : ∀ c, ((89 ≤ c ∧ c < 123) ∨ c = 85 ∨ (137 ≤ c ∧ c ≤ 139) ∨ (145 ≤ c ∧ c ≤ 151) ∨ c = 153) → h' c = h c := fun c hc => e c (RST_in hc)
  exact ⟨TPE_fr e84 (r 85 (by omega)) e17 (r 137 (by omega)) q1, SHE_fr (fun c a b => r c (by omega)) (r 145 (by omega)) (r 146 (by omega)) (r 147 (by omega)) q2, SLE_fr (fun c a b => r c (by omega)) (r 148 (by omega)) (r 149 (by omega)) (r 150 (by omega)) (r 151 (by omega)) q3, WTE_fr e12 e44 (r 89 (by omega)) (r 153 (by omega)) q4, CNE_fr (r 138 (by omega)) (r 139 (by omega)) q5⟩
theorem IV_up {n n' : Nat} {h : Nat → Nat → Int} {τ : List AC} {N J : Nat → Int} (hn : n ≤ n') (q : IVp n h τ N J) : IVp n' h τ N J := by
  obtain ⟨a, b, c, d, e, f, g, i, j, k⟩ := q
  exact ⟨a, b, c, d, e, f, g, i, ⟨j.1, by omega⟩, k⟩
/-- a call of the class that asks -/
theorem IV_X {n : Nat} {h h' : Nat → Nat → Int} {τ : List AC} {N J : Nat → Int} (q : IVp n h τ N J) (hF : Fr [63, 64, 65, 66, 67, 68, 69, 70, 71, 72, 73, 74, 75, 76, 77, 78, 79, 80, 81, 82, 83] h h') (hC : CC h' N J) : IVp n h' τ N J := by
  obtain ⟨a, b, c, d, e, f, g, i, j, k⟩ := q
  have r : ∀ x, x < 63 ∨ 83 < x → h' x = h x := fun x hx => hF x (by simp only [List.mem_cons, List.not_mem_nil, or_false]; omega)
  refine ⟨(r _ (by omega)).trans a, (r _ (by omega)).trans b, c, WR_c (Or.inl rfl) hF c d, ?_, ?_, hC, ?_, ?_, OT_fr (fun x hx => r x ((by decide : ∀ x, x ∈ RST → x < 63 ∨ 83 < x) x hx)) (congrFun (r 84 (by omega)) 1) (congrFun (r 0 (by omega)) 12) (congrFun (r 123 (by omega)) 17) (congrFun (r 123 (by omega)) 44) k⟩
  · rw [r 0 (by omega), r 123 (by omega)]; exact e
  · rw [r 123 (by omega)]; exact fun q => ⟨(f q).1, WR_c (Or.inr rfl) hF (f q).1 (f q).2⟩
  · unfold RC KA KN CW dlB
    rw [r 123 (by omega), r 127 (by omega), r 128 (by omega), r 129 (by omega), r 130 (by omega), r 133 (by omega), r 134 (by omega), r 135 (by omega), r 136 (by omega)]
    exact i
  · rw [r 0 (by omega)]; exact j
/-- a call of the reference that asks -/
theorem IV_R {n : Nat} {h h' : Nat → Nat → Int} {τ : List AC} {N J : Nat → Int} (q : IVp n h τ N J) (hF : Fr [123, 127, 128, 129, 130, 131, 132, 133, 134, 135, 136, 143, 144] h h') (hK : K3 h h') (hC : RC h' N) : IVp n h' τ N J := by
  obtain ⟨a, b, c, d, e, f, g, i, j, k⟩ := q
  have r : ∀ x, x < 123 ∨ (123 < x ∧ x < 127) ∨ (136 < x ∧ x < 143) ∨ 144 < x → h' x = h x := fun x hx => hF x (by simp only [List.mem_cons, List.not_mem_nil, or_false]; omega)
  have h5 := c.1.1.2.2.2.2
  refine ⟨(r _ (by omega)).trans a, (r _ (by omega)).trans b, c, WR_g (Or.inl rfl) (by omega) (fun x h1 h2 => r x (by omega)) d, ?_, ?_, ?_, hC, ?_, OT_fr (fun x hx => r x ((by decide : ∀ x, x ∈ RST → x < 123 ∨ (123 < x ∧ x < 127) ∨ (136 < x ∧ x < 143) ∨ 144 < x) x hx)) (congrFun (r 84 (by omega)) 1) (congrFun (r 0 (by omega)) 12) (hK 17 (by decide) (by decide) (by decide)) (hK 44 (by decide) (by decide) (by decide)) k⟩
  · rw [r 0 (by omega), hK 3 (by decide) (by decide) (by decide)]; exact e
  · rw [hK 3 (by decide) (by decide) (by decide)]; exact fun q => ⟨(f q).1, WR_g (Or.inr rfl) (by have := (f q).1.1.1.2.2.2.2; omega) (fun x h1 h2 => r x (by omega)) (f q).2⟩
  · exact CC_g (congrFun (r 0 (by omega)) 2) (congrFun (r 0 (by omega)) 3) (congrFun (r 1 (by omega)) 0) (congrFun (r 32 (by omega)) 0) (fun x hx => r x ((by decide : ∀ x, x ∈ [63, 64, 65, 66, 67, 68, 69, 70, 71, 72, 73, 74, 78, 79, 80, 81, 82, 83] → x < 123 ∨ (123 < x ∧ x < 127) ∨ (136 < x ∧ x < 143) ∨ 144 < x) x hx)) g
  · rw [r 0 (by omega)]; exact j
def inW (c : Nat) : Prop := c = 0 ∨ (1 ≤ c ∧ c < 32) ∨ c = 123 ∨ c = 124
/-- the world that is now has changed, and is stamped anew -/
theorem IV_s {n : Nat} {h h' : Nat → Nat → Int} {τ : List AC} {N N' J : Nat → Int} (q : IVp n h τ N J) (hF : ∀ c, ¬ inW c → h' c = h c) (h0 : ∀ k, k ≠ 3 → h' 0 k = h 0 k) (e03 : h' 0 3 = h 0 3 + 1) (e10 : h' 1 0 = h 0 3 + 1) (h3 : ∀ k, k ≠ 4 → h' 123 k = h 123 k) (e4 : h' 123 4 = 0) (eN : h' 124 = N') (hX : NX N') (hR : WR h' τ 1 N') : IVp (n + 1) h' τ N' J := by
  obtain ⟨a, b, c, d, e, f, g, i, j, k⟩ := q
  have r : ∀ x, 32 ≤ x → x ≠ 123 → x ≠ 124 → h' x = h x := fun x h1 h2 h3 => hF x (by unfold inW; omega)
  refine ⟨eN, (r _ (by omega) (by omega) (by omega)).trans b, hX, hR, ?_, ?_, ?_, ?_, ?_, OT_fr (fun x hx => r x ((by decide : ∀ x, x ∈ RST → 32 ≤ x) x hx) ((by decide : ∀ x, x ∈ RST → x ≠ 123) x hx) ((by decide : ∀ x, x ∈ RST → x ≠ 124) x hx)) (congrFun (r 84 (by omega) (by omega) (by omega)) 1) (h0 12 (by decide)) (h3 17 (by decide)) (h3 44 (by decide)) k⟩
  · rw [h0 2 (by decide), h3 3 (by decide)]; exact e
  · rw [h3 3 (by decide)]; exact fun q => ⟨(f q).1, WR_g (Or.inr rfl) (by have := (f q).1.1.1.2.2.2.2; omega) (fun x h1 h2 => r x (by omega) (by omega) (by omega)) (f q).2⟩
  · obtain ⟨g1, g2, g3, g4, ⟨r1, r2, r3, r4, r5, r6⟩⟩ := g
    have T1 : ∀ T, TT h T → TT h' T := fun T t => by
      unfold TT TTm
      rw [r 63 (by omega) (by omega) (by omega), r 64 (by omega) (by omega) (by omega), r 65 (by omega) (by omega) (by omega), r 66 (by omega) (by omega) (by omega), r 67 (by omega) (by omega) (by omega), r 68 (by omega) (by omega) (by omega), r 69 (by omega) (by omega) (by omega), r 70 (by omega) (by omega) (by omega), r 71 (by omega) (by omega) (by omega), r 72 (by omega) (by omega) (by omega), r 73 (by omega) (by omega) (by omega), r 74 (by omega) (by omega) (by omega)]
      exact t
    unfold CC CCt CCs CCr at *
    rw [e10, h0 2 (by decide), e03, r 63 (by omega) (by omega) (by omega), r 78 (by omega) (by omega) (by omega), r 80 (by omega) (by omega) (by omega), r 82 (by omega) (by omega) (by omega), r 32 (by omega) (by omega) (by omega)]
    refine ⟨⟨fun q => by omega, fun q => by omega, fun q => by omega, fun q => by omega⟩, fun k => ?_, g3, fun _ q => by omega, ⟨by omega, by omega⟩, ⟨by omega, by omega⟩, by omega, by omega, by omega, by omega⟩
    obtain ⟨b1, b2, b3, b4⟩ := g2 k
    exact ⟨fun q => T1 _ (b1 q), fun q => CHp_fr (r 79 (by omega) (by omega) (by omega)) (b2 q), fun q => CHp_fr (r 81 (by omega) (by omega) (by omega)) (b3 q), fun q => CHp_fr (r 83 (by omega) (by omega) (by omega)) (b4 q)⟩
  · exact ⟨Or.inl e4, fun q => by omega, fun x hx => by rw [r 130 (by omega) (by omega) (by omega)]; exact i.2.2 x hx⟩
  · rw [e03]; omega
/-- the world that is now has changed, but not in what is worked out -/
theorem IV_n {n : Nat} {h h' : Nat → Nat → Int} {τ : List AC} {N N' J : Nat → Int} (q : IVp n h τ N J) (hF : ∀ c, ¬ inW c → h' c = h c) (h0 : ∀ k, k ≠ 8 → h' 0 k = h 0 k) (e10 : h' 1 0 = h 1 0) (h3 : h' 123 = h 123) (eN : h' 124 = N') (hE : VE N N') (hX : NX N') (hR : WR h' τ 1 N') : IVp n h' τ N' J := by
  obtain ⟨a, b, c, d, e, f, g, i, j, k⟩ := q
  have r : ∀ x, 32 ≤ x → x ≠ 123 → x ≠ 124 → h' x = h x := fun x h1 h2 h3 => hF x (by unfold inW; omega)
  have et := VE_tt c.1 hE
  refine ⟨eN, (r _ (by omega) (by omega) (by omega)).trans b, hX, hR, ?_, ?_, ?_, ?_, ?_, OT_fr (fun x hx => r x ((by decide : ∀ x, x ∈ RST → 32 ≤ x) x hx) ((by decide : ∀ x, x ∈ RST → x ≠ 123) x hx) ((by decide : ∀ x, x ∈ RST → x ≠ 124) x hx)) (congrFun (r 84 (by omega) (by omega) (by omega)) 1) (h0 12 (by decide)) (congrFun h3 17) (congrFun h3 44) k⟩
  · rw [h0 2 (by decide), h3]; exact e
  · rw [h3]; exact fun q => ⟨(f q).1, WR_g (Or.inr rfl) (by have := (f q).1.1.1.2.2.2.2; omega) (fun x h1 h2 => r x (by omega) (by omega) (by omega)) (f q).2⟩
  · have g' : CC h' N J := CC_g (h0 2 (by decide)) (h0 3 (by decide)) e10 (congrFun (r 32 (by omega) (by omega) (by omega)) 0) (fun x hx => r x ((by decide : ∀ x, x ∈ [63, 64, 65, 66, 67, 68, 69, 70, 71, 72, 73, 74, 78, 79, 80, 81, 82, 83] → 32 ≤ x) x hx) ((by decide : ∀ x, x ∈ [63, 64, 65, 66, 67, 68, 69, 70, 71, 72, 73, 74, 78, 79, 80, 81, 82, 83] → x ≠ 123) x hx) ((by decide : ∀ x, x ∈ [63, 64, 65, 66, 67, 68, 69, 70, 71, 72, 73, 74, 78, 79, 80, 81, 82, 83] → x ≠ 124) x hx)) g
    unfold CC at *
    rw [et]; exact g'
  · refine RC_e et ?_
    unfold RC KA KN CW dlB
    rw [h3, r 127 (by omega) (by omega) (by omega), r 128 (by omega) (by omega) (by omega), r 129 (by omega) (by omega) (by omega), r 130 (by omega) (by omega) (by omega), r 133 (by omega) (by omega) (by omega), r 134 (by omega) (by omega) (by omega), r 135 (by omega) (by omega) (by omega), r 136 (by omega) (by omega) (by omega)]
    exact i
  · rw [h0 3 (by decide)]; exact j
/-- only the rest has changed -/
theorem IV_o {n : Nat} {h h' : Nat → Nat → Int} {τ : List AC} {N J : Nat → Int} (q : IVp n h τ N J) (hF : ∀ c, (1 ≤ c ∧ c < 84) ∨ (124 ≤ c ∧ c < 137) → h' c = h c) (h0 : ∀ k, k ≠ 12 → h' 0 k = h 0 k) (h3 : ∀ k, k = 3 ∨ k = 4 ∨ k = 9 → h' 123 k = h 123 k) (hO : OT h') : IVp n h' τ N J := by
  obtain ⟨a, b, c, d, e, f, g, i, j, k⟩ := q
  have h5 := c.1.1.2.2.2.2
  refine ⟨(hF _ (by omega)).trans a, (hF _ (by omega)).trans b, c, WR_g (Or.inl rfl) (by omega) (fun x h1 h2 => hF x (by omega)) d, ?_, ?_, ?_, ?_, ?_, hO⟩
  · rw [h0 2 (by decide), h3 3 (by omega)]; exact e
  · rw [h3 3 (by omega)]; exact fun q => ⟨(f q).1, WR_g (Or.inr rfl) (by have := (f q).1.1.1.2.2.2.2; omega) (fun x h1 h2 => hF x (by omega)) (f q).2⟩
  · exact CC_g (h0 2 (by decide)) (h0 3 (by decide)) (congrFun (hF 1 (by omega)) 0) (congrFun (hF 32 (by omega)) 0) (fun x hx => hF x (Or.inl ((by decide : ∀ x, x ∈ [63, 64, 65, 66, 67, 68, 69, 70, 71, 72, 73, 74, 78, 79, 80, 81, 82, 83] → (1 ≤ x ∧ x < 84)) x hx))) g
  · unfold RC KA KN CW dlB
    rw [h3 4 (by omega), h3 9 (by omega), hF 127 (by omega), hF 128 (by omega), hF 129 (by omega), hF 130 (by omega), hF 133 (by omega), hF 134 (by omega), hF 135 (by omega), hF 136 (by omega)]
    exact i
  · rw [h0 3 (by decide)]; exact j
/-! PIECES OF A WORLD AND ITS ROW -/
theorem P_st {h h' : Nat → Nat → Int} {N N' : Nat → Int} (e2 : h' 2 = h 2) (e4 : N' 4 = N 4) (h4 : N 4 ≤ 6) (eN : ∀ k, 9 ≤ k → k < 15 → N' k = N k) (q : ∀ s : Nat, (s : Int) < N 4 → h 2 s = N (9 + s)) : ∀ s : Nat, (s : Int) < N' 4 → h' 2 s = N' (9 + s) := by
  intro s hs; rw [e2, eN _ (by omega) (by omega)]; exact q s (by omega)
theorem P_tr {h h' : Nat → Nat → Int} {N N' : Nat → Int} (e : ∀ c, 8 ≤ c → c < 32 → h' c = h c) (e5 : N' 5 = N 5) (h5 : N 5 ≤ 12) (eN : ∀ k, 15 ≤ k → k < 147 → N' k = N k) (q : ∀ t : Nat, (t : Int) < N 5 → trW h (1 + 7 + 2 * t) N t) : ∀ t : Nat, (t : Int) < N' 5 → trW h' (1 + 7 + 2 * t) N' t := by
  intro t ht
  have q1 := q t (by omega)
  unfold trW
  rw [e (1 + 7 + 2 * t) (by omega) (by omega), e (1 + 7 + 2 * t + 1) (by omega) (by omega), eN (15 + 11 * t) (by omega) (by omega), eN (16 + 11 * t) (by omega) (by omega), eN (17 + 11 * t) (by omega) (by omega), eN (18 + 11 * t) (by omega) (by omega), eN (19 + 11 * t) (by omega) (by omega), eN (20 + 11 * t) (by omega) (by omega), eN (21 + 11 * t) (by omega) (by omega)]
  exact ⟨q1.1, q1.2.1, q1.2.2.1, q1.2.2.2.1, q1.2.2.2.2.1, q1.2.2.2.2.2.1, q1.2.2.2.2.2.2.1, fun s hs => by rw [eN _ (by omega) (by omega)]; exact q1.2.2.2.2.2.2.2 s hs⟩
theorem P_tx {h h' : Nat → Nat → Int} {τ : List AC} {N N' : Nat → Int} (e4 : h' 4 = h 4) (e6 : N' 6 = N 6) (eN : ∀ k, 173 ≤ k → N' k = N k) (q : txR h τ (1 + 3) N) : txR h' τ (1 + 3) N' := by
  intro t ht
  obtain ⟨q, q1, ft, q2, q3, q4, q5, cx, q6, q7, q8⟩ := q t (by omega)
  have el : lnN N' t = lnN N t := by unfold lnN; rw [eN _ (by omega)]
  have ec : cdN N' t = cdN N t := by funext k; exact eN _ (by omega)
  refine ⟨q, by show h' 4 t = _; rw [e4]; exact q1, ft, q2, ?_, ?_, q5, cx, q6, ?_, ?_⟩
  · rw [eN _ (by omega)]; exact q3
  · rw [eN _ (by omega)]; exact q4
  · rw [el]; exact q7
  · rw [el, ec]; exact q8
theorem P_pl {h h' : Nat → Nat → Int} {N N' : Nat → Int} (e : h' 5 = h 5) (e7 : N' 7 = N 7) (h7 : N 7 ≤ 6) (eN : ∀ k, 147 ≤ k → k < 153 → N' k = N k) (q : ∀ k : Nat, (k : Int) < N 7 → h 5 k = N (147 + k)) : ∀ k : Nat, (k : Int) < N' 7 → h' 5 k = N' (147 + k) := by
  intro k hk; rw [e, eN _ (by omega) (by omega)]; exact q k (by omega)
theorem P_gu {h h' : Nat → Nat → Int} {N N' : Nat → Int} (e6 : h' 6 = h 6) (e7 : h' 7 = h 7) (e8 : N' 8 = N 8) (h8 : N 8 ≤ 10) (eN : ∀ k, 153 ≤ k → k < 173 → N' k = N k) (q : ∀ g : Nat, (g : Int) < N 8 → h 6 g = N (153 + 2 * g) ∧ h 7 g = N (153 + 2 * g + 1)) : ∀ g : Nat, (g : Int) < N' 8 → h' 6 g = N' (153 + 2 * g) ∧ h' 7 g = N' (153 + 2 * g + 1) := by
  intro g hg; rw [e6, e7, eN (153 + 2 * g) (by omega) (by omega), eN (153 + 2 * g + 1) (by omega) (by omega)]; exact q g (by omega)
theorem X_st {N N' : Nat → Int} (eN : ∀ k, 9 ≤ k → k < 15 → N' k = N k) (q : stOK N) : stOK N' := by
  intro s hs; rw [eN _ (by omega) (by omega)]; exact q s hs
theorem X_tr {N N' : Nat → Int} (e5 : N' 5 = N 5) (h5 : N 5 ≤ 12) (e4 : N 4 ≤ N' 4) (eN : ∀ k, 15 ≤ k → k < 147 → N' k = N k) (q : trOK N) : trOK N' := by
  intro t ht
  have q1 := q t (by omega)
  unfold trR at *
  rw [eN (15 + 11 * t) (by omega) (by omega), eN (16 + 11 * t) (by omega) (by omega), eN (17 + 11 * t) (by omega) (by omega), eN (18 + 11 * t) (by omega) (by omega), eN (19 + 11 * t) (by omega) (by omega), eN (20 + 11 * t) (by omega) (by omega), eN (21 + 11 * t) (by omega) (by omega), eN (22 + 11 * t) (by omega) (by omega), eN (22 + 11 * t + 1) (by omega) (by omega), eN (22 + 11 * t + 2) (by omega) (by omega), eN (22 + 11 * t + 3) (by omega) (by omega)]
  omega
theorem X_tx {N N' : Nat → Int} (e6 : N' 6 = N 6) (eN : ∀ k, 173 ≤ k → N' k = N k) (q : txOK N) : txOK N' := by
  obtain ⟨a, b, c⟩ := q
  refine ⟨by rw [e6]; exact a, fun t ht => by rw [eN _ (by omega)]; exact b t ht, fun t ht => ?_⟩
  have el : lnN N' t = lnN N t := by unfold lnN; rw [eN _ (by omega)]
  have ec : cdN N' t = cdN N t := by funext k; exact eN _ (by omega)
  rw [eN _ (by omega), el, ec]
  exact c t (by omega)
theorem X_pl {N N' : Nat → Int} (e7 : N' 7 = N 7) (h7 : N 7 ≤ 6) (e5 : N 5 ≤ N' 5) (eN : ∀ k, 147 ≤ k → k < 153 → N' k = N k) (q : ∀ k : Nat, (k : Int) < N 7 → 0 ≤ N (147 + k) ∧ N (147 + k) < N 5) : ∀ k : Nat, (k : Int) < N' 7 → 0 ≤ N' (147 + k) ∧ N' (147 + k) < N' 5 := by
  intro k hk; have := q k (by omega); rw [eN _ (by omega) (by omega)]; omega
theorem X_gu {N N' : Nat → Int} (e8 : N' 8 = N 8) (h8 : N 8 ≤ 10) (e4 : N 4 ≤ N' 4) (eN : ∀ k, 153 ≤ k → k < 173 → N' k = N k) (q : ∀ g : Nat, (g : Int) < N 8 → (0 ≤ N (153 + 2 * g) ∧ N (153 + 2 * g) < N 4) ∧ 0 ≤ N (153 + 2 * g + 1) ∧ N (153 + 2 * g + 1) ≤ 1439) : ∀ g : Nat, (g : Int) < N' 8 → (0 ≤ N' (153 + 2 * g) ∧ N' (153 + 2 * g) < N' 4) ∧ 0 ≤ N' (153 + 2 * g + 1) ∧ N' (153 + 2 * g + 1) ≤ 1439 := by
  intro k hk; have := q k (by omega); rw [eN (153 + 2 * k) (by omega) (by omega), eN (153 + 2 * k + 1) (by omega) (by omega)]; omega
