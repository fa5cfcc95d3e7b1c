/-! THE LAYOUT: the cells that the two constructors make, in their order; their kinds, lengths and the references that never change -/
def kdL : List (Nat × Nat) := [(8, 14), (7, 16), (12, 6), (18, 12), (17, 14), (12, 6), (12, 10), (12, 10), (6, 8), (12, 4), (6, 8), (12, 4), (6, 8), (12, 4), (6, 8), (12, 4), (6, 8), (12, 4), (6, 8), (12, 4), (6, 8), (12, 4), (6, 8), (12, 4), (6, 8), (12, 4), (6, 8), (12, 4), (6, 8), (12, 4), (6, 8), (12, 4), (7, 16), (12, 6), (18, 12), (17, 14), (12, 6), (12, 10), (12, 10), (6, 8), (12, 4), (6, 8), (12, 4), (6, 8), (12, 4), (6, 8), (12, 4), (6, 8), (12, 4), (6, 8), (12, 4), (6, 8), (12, 4), (6, 8), (12, 4), (6, 8), (12, 4), (6, 8), (12, 4), (6, 8), (12, 4), (6, 8), (12, 4), (5, 19), (12, 6), (12, 12), (12, 12), (12, 12), (12, 12), (12, 12), (12, 12), (12, 48), (12, 48), (12, 373), (12, 1590), (12, 96), (13, 4), (13, 4), (0, 4), (12, 2238), (0, 4), (12, 2238), (0, 4), (12, 2238), (3, 9), (10, 96), (12, 96), (15, 4), (16, 5), (12, 60), (1, 3), (12, 24), (1, 3), (12, 24), (1, 3), (12, 24), (1, 3), (12, 24), (2, 4), (6, 8), (12, 4), (1, 3), (12, 24), (2, 4), (6, 8), (12, 4), (1, 3), (12, 24), (2, 4), (6, 8), (12, 4), (1, 3), (12, 24), (2, 4), (6, 8), (12, 4), (1, 3), (12, 24), (2, 4), (6, 8), (12, 4), (1, 3), (12, 24), (9, 45), (12, 1545), (12, 1545), (12, 1545), (12, 6), (12, 12), (12, 12), (12, 48), (13, 4), (13, 4), (12, 9600), (12, 9600), (12, 9600), (12, 9600), (12, 96), (11, 13), (12, 4), (12, 96), (12, 96), (14, 10), (12, 96), (12, 4), (12, 4), (12, 4), (12, 96), (12, 5), (12, 5), (12, 5), (12, 120), (12, 24), (12, 60)]
def spL : List (List (Nat × Nat)) := [[(0, 1), (1, 32), (4, 63), (5, 78), (6, 80), (7, 82), (9, 84), (10, 87), (11, 88), (13, 89)], [(2, 2), (4, 3), (6, 4), (8, 5), (13, 6), (14, 7)], [], [(0, 8), (1, 10), (2, 12), (3, 14), (4, 16), (5, 18), (6, 20), (7, 22), (8, 24), (9, 26), (10, 28), (11, 30)], [], [], [], [], [(7, 9)], [], [(7, 11)], [], [(7, 13)], [], [(7, 15)], [], [(7, 17)], [], [(7, 19)], [], [(7, 21)], [], [(7, 23)], [], [(7, 25)], [], [(7, 27)], [], [(7, 29)], [], [(7, 31)], [], [(2, 33), (4, 34), (6, 35), (8, 36), (13, 37), (14, 38)], [], [(0, 39), (1, 41), (2, 43), (3, 45), (4, 47), (5, 49), (6, 51), (7, 53), (8, 55), (9, 57), (10, 59), (11, 61)], [], [], [], [], [(7, 40)], [], [(7, 42)], [], [(7, 44)], [], [(7, 46)], [], [(7, 48)], [], [(7, 50)], [], [(7, 52)], [], [(7, 54)], [], [(7, 56)], [], [(7, 58)], [], [(7, 60)], [], [(7, 62)], [], [(4, 64), (5, 65), (6, 66), (7, 67), (8, 68), (9, 69), (10, 70), (11, 71), (12, 72), (14, 73), (15, 74), (16, 75)], [], [], [], [], [], [], [], [], [], [], [], [], [], [], [(1, 79)], [], [(1, 81)], [], [(1, 83)], [], [(0, 85), (8, 86)], [], [], [(0, 90), (1, 92), (2, 94), (3, 96)], [(0, 98), (1, 103), (2, 108), (3, 113), (4, 118)], [], [(2, 91)], [], [(2, 93)], [], [(2, 95)], [], [(2, 97)], [], [(2, 99), (3, 101)], [(7, 100)], [], [(2, 102)], [], [(2, 104), (3, 106)], [(7, 105)], [], [(2, 107)], [], [(2, 109), (3, 111)], [(7, 110)], [], [(2, 112)], [], [(2, 114), (3, 116)], [(7, 115)], [], [(2, 117)], [], [(2, 119), (3, 121)], [(7, 120)], [], [(2, 122)], [], [(0, 124), (1, 125), (2, 126), (5, 127), (6, 128), (7, 129), (8, 130), (10, 131), (11, 132), (12, 133), (13, 134), (14, 135), (15, 136), (16, 137), (24, 138), (25, 139), (26, 140), (29, 141), (31, 142), (32, 143), (33, 144), (35, 145), (36, 146), (37, 147), (38, 148), (39, 149), (40, 150), (41, 151), (42, 152), (43, 153)], [], [], [], [], [], [], [], [], [], [], [], [], [], [], [], [], [], [], [], [], [], [], [], [], [], [], [], [], [], []]
def kd (j : Nat) : Nat × Nat := kdL.getD j (0, 0)
def sp (j k : Nat) : Option Nat := (spL.getD j []).lookup k
def upR (h : Nat → Nat → Int) (a : Nat) (f : Nat → Int) : Nat → Nat → Int := fun j => if j = a then f else h j
def up2 (h : Nat → Nat → Int) (a k : Nat) (v : Int) : Nat → Nat → Int := upR h a (up (h a) k v)
def lay (h : Nat → Nat → Int) (j : Nat) : AC := ((kd j).1, (kd j).2, fun k => match sp j k with | some p => (p : Int) | none => h j k)
def mk (h : Nat → Nat → Int) (τ : List AC) : List AC := (List.range 154).map (lay h) ++ τ
theorem mk_get {h : Nat → Nat → Int} {τ : List AC} {a : Nat} (ha : a < 154) : (mk h τ)[a]? = some (lay h a) := by
  unfold mk
  rw [List.getElem?_append_left (by simpa using ha), List.getElem?_map]
  simp [ha]
theorem mk_dyn {h : Nat → Nat → Int} {τ : List AC} (t : Nat) : (mk h τ)[154 + t]? = τ[t]? := by
  unfold mk
  rw [List.getElem?_append_right (by simp), List.length_map, List.length_range, Nat.add_sub_cancel_left]
theorem mk_len {h : Nat → Nat → Int} {τ : List AC} : (mk h τ).length = 154 + τ.length := by
  unfold mk
  rw [List.length_append, List.length_map, List.length_range]
theorem mk_push {h : Nat → Nat → Int} {τ : List AC} {c : AC} : mk h τ ++ [c] = mk h (τ ++ [c]) := by
  unfold mk
  rw [List.append_assoc]
theorem lay_c {h : Nat → Nat → Int} {a k : Nat} (hs : sp a k = none) : (lay h a).2.2 k = h a k := by
  unfold lay
  simp only [hs]
theorem lay_p {h : Nat → Nat → Int} {a k p : Nat} (hs : sp a k = some p) : (lay h a).2.2 k = (p : Int) := by
  unfold lay
  simp only [hs]
theorem mk_setR {h : Nat → Nat → Int} {τ : List AC} {a : Nat} {f : Nat → Int} (ha : a < 154) (hf : ∀ k p, sp a k = some p → f k = (p : Int)) : (mk h τ).set a ((kd a).1, (kd a).2, f) = mk (upR h a f) τ := by
  unfold mk
  rw [List.set_append_left _ _ (by simpa using ha)]
  congr 1
  apply List.ext_getElem?
  intro i
  rw [List.getElem?_set]
  by_cases hi : a = i
  · subst hi
    simp only [if_true, List.length_map, List.length_range, ha, List.getElem?_map, List.getElem?_range ha, Option.map_some]
    unfold lay upR
    simp only [if_true]
    congr 3
    funext k
    cases hk : sp a k with
    | none => rfl
    | some p => exact hf k p hk
  · simp only [hi, if_false, List.getElem?_map]
    by_cases hl : i < 154
    · simp only [List.getElem?_range hl, Option.map_some]
      unfold lay upR
      simp only [Ne.symm hi, if_false]
    · rw [List.getElem?_eq_none (by simpa using hl)]
      rfl
theorem mk_set {h : Nat → Nat → Int} {τ : List AC} {a k : Nat} {v : Int} (ha : a < 154) (hs : sp a k = none) : (mk h τ).set a ((kd a).1, (kd a).2, up (lay h a).2.2 k v) = mk (up2 h a k v) τ := by
  rw [mk_setR ha]
  · unfold up2
    unfold mk
    congr 1
    apply List.map_congr_left
    intro j _
    unfold lay
    by_cases hj : j = a
    · subst hj
      congr 2
      funext i
      cases hi : sp j i with
      | some p => rfl
      | none =>
        unfold upR up
        simp only [if_true]
        by_cases hik : i = k
        · simp [hik]
        · simp [hik, hi]
    · unfold upR
      simp only [hj, if_false]
  · intro i p hi
    unfold up
    by_cases hik : i = k
    · subst hik; rw [hs] at hi; cases hi
    · rw [if_neg hik]; exact lay_p hi
theorem up2_at {h : Nat → Nat → Int} {a k : Nat} {v : Int} : up2 h a k v a k = v := by
  unfold up2 upR up
  simp
theorem up2_row {h : Nat → Nat → Int} {a k j : Nat} {v : Int} (hj : j ≠ a) : up2 h a k v j = h j := by
  unfold up2 upR
  rw [if_neg hj]
theorem up2_ne {h : Nat → Nat → Int} {a k j i : Nat} {v : Int} (hj : ¬ (j = a ∧ i = k)) : up2 h a k v j i = h j i := by
  unfold up2 upR up
  by_cases h1 : j = a
  · subst h1
    rw [if_pos rfl, if_neg (fun e => hj ⟨rfl, e⟩)]
  · rw [if_neg h1]
section BR
variable {γ : GT} {Y : MT} {d mc ms pc : Nat} {Post : Option AV → List AC → Prop} {lv : List (Nat × AV)} {st : List AV} {h : Nat → Nat → Int} {τ : List AC}
theorem b_get {a κ k n idx t : Nat} {z : Int} (hd : decode Y.2.1 pc = .ok (.getfield idx, 3)) (hw : FieldW Y.1.cls κ k idx) (ha : a < 154) (hκ : kd a = (κ, n)) (hk : k < n) (hs : sp a k = none) (ht : et κ k = t) (hz : h a k = z) (kk : Aj γ Y d mc ms Post (pc + 3) lv ((t, z) :: st) (mk h τ)) : Aj γ Y d mc ms Post pc lv (vA a :: st) (mk h τ) := by
  have hg := mk_get (h := h) (τ := τ) ha
  refine a_get hd hw (n := n) (f := (lay h a).2.2) (hg.trans ?_) hk (v := (t, z)) ?_ kk
  · unfold lay; rw [hκ]
  · rw [ht, lay_c hs, hz]
theorem b_getp {a κ k n idx p : Nat} (hd : decode Y.2.1 pc = .ok (.getfield idx, 3)) (hw : FieldW Y.1.cls κ k idx) (ha : a < 154) (hκ : kd a = (κ, n)) (hk : k < n) (hs : sp a k = some p) (ht : et κ k = 2) (kk : Aj γ Y d mc ms Post (pc + 3) lv (vA p :: st) (mk h τ)) : Aj γ Y d mc ms Post pc lv (vA a :: st) (mk h τ) := by
  have hg := mk_get (h := h) (τ := τ) ha
  refine a_get hd hw (n := n) (f := (lay h a).2.2) (hg.trans ?_) hk (v := vA p) ?_ kk
  · unfold lay; rw [hκ]
  · rw [ht, lay_p hs]
theorem b_put {a κ k n idx : Nat} {v : AV} {ty : FieldType} {fin : Bool} (hd : decode Y.2.1 pc = .ok (.putfield idx, 3)) (hw : PutW Y.1.cls κ k idx ty fin) (hfin : fin = true → Y.1.name = "<init>") (ha : a < 154) (hκ : kd a = (κ, n)) (hk : k < n) (hs : sp a k = none) (hv : v.1 = et κ k) (hfit : fitT ty v) (kk : Aj γ Y d mc ms Post (pc + 3) lv st (mk (up2 h a k v.2) τ)) : Aj γ Y d mc ms Post pc lv (v :: vA a :: st) (mk h τ) := by
  have hg := mk_get (h := h) (τ := τ) ha
  refine a_put hd hw hfin (n := n) (f := (lay h a).2.2) (hg.trans ?_) hk hv hfit ?_
  · unfold lay; rw [hκ]
  · have e := mk_set (h := h) (τ := τ) (v := v.2) ha hs
    rw [hκ] at e
    rw [e]
    exact kk
theorem b_iaload {a n : Nat} {i z : Int} (k : Nat) (hd : decode Y.2.1 pc = .ok (.iaload, 1)) (ha : a < 154) (hκ : kd a = (12, n)) (hi : i = (k : Int)) (hk : k < n) (hs : sp a k = none) (hz : h a k = z) (kk : inI z → Aj γ Y d mc ms Post (pc + 1) lv (vI z :: st) (mk h τ)) : Aj γ Y d mc ms Post pc lv (vI i :: vA a :: st) (mk h τ) := by
  have hg := mk_get (h := h) (τ := τ) ha
  refine a_iaload k hd (n := n) (f := (lay h a).2.2) (hg.trans ?_) hi hk ?_ kk
  · unfold lay; rw [hκ]
  · rw [lay_c hs, hz]
theorem b_baload {a n : Nat} {i z : Int} (k : Nat) (hd : decode Y.2.1 pc = .ok (.baload, 1)) (ha : a < 154) (hκ : kd a = (10, n)) (hi : i = (k : Int)) (hk : k < n) (hs : sp a k = none) (hz : h a k = z) (kk : inI z → Aj γ Y d mc ms Post (pc + 1) lv (vI z :: st) (mk h τ)) : Aj γ Y d mc ms Post pc lv (vI i :: vA a :: st) (mk h τ) := by
  have hg := mk_get (h := h) (τ := τ) ha
  refine a_baload k hd (n := n) (f := (lay h a).2.2) (hg.trans ?_) hi hk ?_ kk
  · unfold lay; rw [hκ]
  · rw [lay_c hs, hz]
theorem b_caload {a n : Nat} {i z : Int} (k : Nat) (hd : decode Y.2.1 pc = .ok (.caload, 1)) (ha : a < 154) (hκ : kd a = (11, n)) (hi : i = (k : Int)) (hk : k < n) (hs : sp a k = none) (hz : h a k = z) (kk : inI z → Aj γ Y d mc ms Post (pc + 1) lv (vI z :: st) (mk h τ)) : Aj γ Y d mc ms Post pc lv (vI i :: vA a :: st) (mk h τ) := by
  have hg := mk_get (h := h) (τ := τ) ha
  refine a_caload k hd (n := n) (f := (lay h a).2.2) (hg.trans ?_) hi hk ?_ kk
  · unfold lay; rw [hκ]
  · rw [lay_c hs, hz]
theorem b_zaload {a n : Nat} {i z : Int} (k : Nat) (hd : decode Y.2.1 pc = .ok (.baload, 1)) (ha : a < 154) (hκ : kd a = (14, n)) (hi : i = (k : Int)) (hk : k < n) (hs : sp a k = none) (hz : h a k = z) (kk : inI z → Aj γ Y d mc ms Post (pc + 1) lv (vI z :: st) (mk h τ)) : Aj γ Y d mc ms Post pc lv (vI i :: vA a :: st) (mk h τ) := by
  have hg := mk_get (h := h) (τ := τ) ha
  refine a_zaload k hd (n := n) (f := (lay h a).2.2) (hg.trans ?_) hi hk ?_ kk
  · unfold lay; rw [hκ]
  · rw [lay_c hs, hz]
theorem b_laload {a n : Nat} {i z : Int} (k : Nat) (hd : decode Y.2.1 pc = .ok (.laload, 1)) (ha : a < 154) (hκ : kd a = (13, n)) (hi : i = (k : Int)) (hk : k < n) (hs : sp a k = none) (hz : h a k = z) (kk : inL z → Aj γ Y d mc ms Post (pc + 1) lv (vL z :: st) (mk h τ)) : Aj γ Y d mc ms Post pc lv (vI i :: vA a :: st) (mk h τ) := by
  have hg := mk_get (h := h) (τ := τ) ha
  refine a_laload k hd (n := n) (f := (lay h a).2.2) (hg.trans ?_) hi hk ?_ kk
  · unfold lay; rw [hκ]
  · rw [lay_c hs, hz]
theorem b_iastore {a n : Nat} {i z : Int} (k : Nat) (hd : decode Y.2.1 pc = .ok (.iastore, 1)) (ha : a < 154) (hκ : kd a = (12, n)) (hi : i = (k : Int)) (hk : k < n) (hs : sp a k = none) (kk : Aj γ Y d mc ms Post (pc + 1) lv st (mk (up2 h a k z) τ)) : Aj γ Y d mc ms Post pc lv (vI z :: vI i :: vA a :: st) (mk h τ) := by
  have hg := mk_get (h := h) (τ := τ) ha
  refine a_iastore k hd (n := n) (f := (lay h a).2.2) (hg.trans ?_) hi hk ?_
  · unfold lay; rw [hκ]
  · have e := mk_set (h := h) (τ := τ) (v := z) ha hs
    rw [hκ] at e
    rw [e]
    exact kk
theorem b_bastore {a n : Nat} {i x z : Int} (k : Nat) (hd : decode Y.2.1 pc = .ok (.bastore, 1)) (ha : a < 154) (hκ : kd a = (10, n)) (hi : i = (k : Int)) (hk : k < n) (hs : sp a k = none) (hn : vp_nar .byte (Int32.ofInt x) = Int32.ofInt z) (hzi : inI z) (kk : Aj γ Y d mc ms Post (pc + 1) lv st (mk (up2 h a k z) τ)) : Aj γ Y d mc ms Post pc lv (vI x :: vI i :: vA a :: st) (mk h τ) := by
  have hg := mk_get (h := h) (τ := τ) ha
  refine a_bastore k hd (n := n) (f := (lay h a).2.2) (hg.trans ?_) hi hk hn hzi ?_
  · unfold lay; rw [hκ]
  · have e := mk_set (h := h) (τ := τ) (v := z) ha hs
    rw [hκ] at e
    rw [e]
    exact kk
theorem b_zastore {a n : Nat} {i x z : Int} (k : Nat) (hd : decode Y.2.1 pc = .ok (.bastore, 1)) (ha : a < 154) (hκ : kd a = (14, n)) (hi : i = (k : Int)) (hk : k < n) (hs : sp a k = none) (hn : vp_nar .boolean (Int32.ofInt x) = Int32.ofInt z) (hzi : inI z) (kk : Aj γ Y d mc ms Post (pc + 1) lv st (mk (up2 h a k z) τ)) : Aj γ Y d mc ms Post pc lv (vI x :: vI i :: vA a :: st) (mk h τ) := by
  have hg := mk_get (h := h) (τ := τ) ha
  refine a_zastore k hd (n := n) (f := (lay h a).2.2) (hg.trans ?_) hi hk hn hzi ?_
  · unfold lay; rw [hκ]
  · have e := mk_set (h := h) (τ := τ) (v := z) ha hs
    rw [hκ] at e
    rw [e]
    exact kk
theorem b_castore {a n : Nat} {i x z : Int} (k : Nat) (hd : decode Y.2.1 pc = .ok (.castore, 1)) (ha : a < 154) (hκ : kd a = (11, n)) (hi : i = (k : Int)) (hk : k < n) (hs : sp a k = none) (hn : vp_nar .char (Int32.ofInt x) = Int32.ofInt z) (hzi : inI z) (kk : Aj γ Y d mc ms Post (pc + 1) lv st (mk (up2 h a k z) τ)) : Aj γ Y d mc ms Post pc lv (vI x :: vI i :: vA a :: st) (mk h τ) := by
  have hg := mk_get (h := h) (τ := τ) ha
  refine a_castore k hd (n := n) (f := (lay h a).2.2) (hg.trans ?_) hi hk hn hzi ?_
  · unfold lay; rw [hκ]
  · have e := mk_set (h := h) (τ := τ) (v := z) ha hs
    rw [hκ] at e
    rw [e]
    exact kk
theorem b_lastore {a n : Nat} {i z : Int} (k : Nat) (hd : decode Y.2.1 pc = .ok (.lastore, 1)) (ha : a < 154) (hκ : kd a = (13, n)) (hi : i = (k : Int)) (hk : k < n) (hs : sp a k = none) (kk : Aj γ Y d mc ms Post (pc + 1) lv st (mk (up2 h a k z) τ)) : Aj γ Y d mc ms Post pc lv (vL z :: vI i :: vA a :: st) (mk h τ) := by
  have hg := mk_get (h := h) (τ := τ) ha
  refine a_lastore k hd (n := n) (f := (lay h a).2.2) (hg.trans ?_) hi hk ?_
  · unfold lay; rw [hκ]
  · have e := mk_set (h := h) (τ := τ) (v := z) ha hs
    rw [hκ] at e
    rw [e]
    exact kk
theorem b_aaloadp {a κ n p : Nat} {i : Int} {Cn : String} (k : Nat) (hd : decode Y.2.1 pc = .ok (.aaload, 1)) (ha : a < 154) (hκ : kd a = (κ, n)) (hq : 15 ≤ κ ∧ ∀ γ : GT, (tysL γ)[κ - 10]? = some (g_dA γ κ, .object Cn)) (hi : i = (k : Int)) (hk : k < n) (hs : sp a k = some p) (kk : Aj γ Y d mc ms Post (pc + 1) lv (vA p :: st) (mk h τ)) : Aj γ Y d mc ms Post pc lv (vI i :: vA a :: st) (mk h τ) := by
  have hg := mk_get (h := h) (τ := τ) ha
  refine a_aaload k hd (n := n) (f := (lay h a).2.2) (hg.trans ?_) hq hi hk (lay_p hs) kk
  unfold lay; rw [hκ]
theorem b_aaload {a κ n : Nat} {i z : Int} {Cn : String} (k : Nat) (hd : decode Y.2.1 pc = .ok (.aaload, 1)) (ha : a < 154) (hκ : kd a = (κ, n)) (hq : 15 ≤ κ ∧ ∀ γ : GT, (tysL γ)[κ - 10]? = some (g_dA γ κ, .object Cn)) (hi : i = (k : Int)) (hk : k < n) (hs : sp a k = none) (hz : h a k = z) (kk : Aj γ Y d mc ms Post (pc + 1) lv ((2, z) :: st) (mk h τ)) : Aj γ Y d mc ms Post pc lv (vI i :: vA a :: st) (mk h τ) := by
  have hg := mk_get (h := h) (τ := τ) ha
  refine a_aaload k hd (n := n) (f := (lay h a).2.2) (hg.trans ?_) hq hi hk ((lay_c hs).trans hz) kk
  unfold lay; rw [hκ]
theorem b_aastore {a κ n b κ' n' : Nat} {f' : Nat → Int} {i : Int} (k : Nat) (hd : decode Y.2.1 pc = .ok (.aastore, 1)) (ha : a < 154) (hκ : kd a = (κ, n)) (hb : (mk h τ)[b]? = some (κ', n', f')) (hq : 15 ≤ κ ∧ κ' < 10 ∧ ∃ r : vw_C, vwCl[κ']? = some r ∧ ∀ γ : GT, (tysL γ)[κ - 10]? = some (g_dA γ κ, .object r.1)) (hi : i = (k : Int)) (hk : k < n) (hs : sp a k = none) (kk : Aj γ Y d mc ms Post (pc + 1) lv st (mk (up2 h a k (b : Int)) τ)) : Aj γ Y d mc ms Post pc lv (vA b :: vI i :: vA a :: st) (mk h τ) := by
  have hg := mk_get (h := h) (τ := τ) ha
  refine a_aastore k hd (n := n) (f := (lay h a).2.2) (hg.trans ?_) hb hq hi hk ?_
  · unfold lay; rw [hκ]
  · have e := mk_set (h := h) (τ := τ) (v := (b : Int)) ha hs
    rw [hκ] at e
    rw [e]
    exact kk
theorem b_alen {a κ n : Nat} (hd : decode Y.2.1 pc = .ok (.arraylength, 1)) (ha : a < 154) (hκ : kd a = (κ, n)) (hq : 10 ≤ κ ∧ κ < 19) (hn : n < 2147483648) (k : Aj γ Y d mc ms Post (pc + 1) lv (vI (n : Int) :: st) (mk h τ)) : Aj γ Y d mc ms Post pc lv (vA a :: st) (mk h τ) := by
  have hg := mk_get (h := h) (τ := τ) ha
  refine a_alen hd (f := (lay h a).2.2) (hg.trans ?_) hq hn k
  unfold lay; rw [hκ]
theorem lay_row {h : Nat → Nat → Int} {a : Nat} (hs : ∀ k, sp a k = none) : (lay h a).2.2 = h a := funext fun k => lay_c (hs k)
theorem sp_nil {a : Nat} (hs : spL.getD a [] = []) : ∀ k, sp a k = none := fun k => by unfold sp; rw [hs]; rfl
theorem b_copy {idx a b n0' n1 sp' dp n : Nat} {zs zd zn : Int} (hd : decode Y.2.1 pc = .ok (.invokestatic idx, 3)) (hl : Cond.methodLink Y.1.cls idx arraycopyName ∈ lw_tbl) (hw : Cond.native arraycopyName ∈ lw_tbl ∧ Cond.static arraycopyName ∈ lw_tbl ∧ Cond.initialized "java/lang/System" ∈ lw_tbl) (ha : a < 154) (hb : b < 154) (hκ : kd a = (12, n0')) (hκ' : kd b = (12, n1)) (hs : ∀ k, sp a k = none) (hs' : ∀ k, sp b k = none) (h1 : zs = (sp' : Int)) (h2 : zd = (dp : Int)) (h3 : zn = (n : Int)) (h4 : sp' + n ≤ n0') (h5 : dp + n ≤ n1) (hst : stw st ≤ 8) (hd' : 1 ≤ d) (k : Aj γ Y d mc ms Post (pc + 3) lv st (mk (upR h b (cpy (h a) (h b) sp' dp n)) τ)) : Aj γ Y d mc ms Post pc lv (vI zn :: vI zd :: vA b :: vI zs :: vA a :: st) (mk h τ) := by
  have hg := mk_get (h := h) (τ := τ) ha
  have hg' := mk_get (h := h) (τ := τ) hb
  refine a_copy hd hl hw (f := h a) (g := h b) (hg.trans ?_) (hg'.trans ?_) h1 h2 h3 h4 h5 hst hd' ?_
  · rw [← lay_row (h := h) hs]; unfold lay; rw [hκ]
  · rw [← lay_row (h := h) hs']; unfold lay; rw [hκ']
  · have e := mk_setR (h := h) (τ := τ) (f := cpy (h a) (h b) sp' dp n) hb (fun k p hk => by rw [hs' k] at hk; cases hk)
    rw [hκ'] at e
    rw [e]
    exact k
theorem b_callV {Y' : MT} {d' mc' ms' mc1 ms1 idx b κ n : Nat} (as : List AV) {stk : List AV} (hd : decode Y.2.1 pc = .ok (.invokevirtual idx, 3)) (hw : MtW Y' as.length ∧ Cond.instanceMethod Y'.1 ∈ lw_tbl ∧ Cond.selects Y'.1.cls Y'.1 Y'.1 ∈ lw_tbl) (hl : Cond.methodLink Y.1.cls idx Y'.1 ∈ lw_tbl ∨ ∃ host, Cond.methodLinkNest Y.1.cls idx Y'.1 host ∈ lw_tbl) (hb : b < 154) (hk : kd b = (κ, n)) (hκ : κ < 10 ∧ ∃ r : vw_C, vwCl[κ]? = some r ∧ r.1 = Y'.1.cls) (hs : stk = as.reverse ++ vA b :: st) (hst : stw st ≤ 8) (hd' : d' + 1 ≤ d) (h1 : mc' + mc1 = mc) (h2 : ms' + ms1 = ms) (k : Cj γ Y' d' mc' ms' (vA b :: as) (mk h τ) (fun r σ' => Aj γ Y d mc1 ms1 Post (pc + 3) lv (r.toList ++ st) σ')) : Aj γ Y d mc ms Post pc lv stk (mk h τ) := by
  have hg := mk_get (h := h) (τ := τ) hb
  refine a_callV as hd hw hl (n := n) (f := (lay h b).2.2) (hg.trans ?_) hκ hs hst hd' h1 h2 k
  unfold lay; rw [hk]
/-- numbers of the fixed cells are in range -/
theorem b_rng {a κ n k : Nat} (ha : a < 154) (hκ : kd a = (κ, n)) (hs : sp a k = none) (ht : et κ k = 0) (kk : inI (h a k) → Aj γ Y d mc ms Post pc lv st (mk h τ)) : Aj γ Y d mc ms Post pc lv st (mk h τ) := by
  refine a_ok fun hok hst hlv => ?_
  have hg := mk_get (h := h) (τ := τ) ha
  have := hok a _ hg k
  rw [show (lay h a).1 = κ by unfold lay; rw [hκ], ht, lay_c hs] at this
  exact kk this
end BR
