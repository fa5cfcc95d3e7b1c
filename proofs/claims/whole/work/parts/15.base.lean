theorem w_ok {z : Int} (h1 : -2147483648 ≤ z) (h2 : z < 2147483648) : w32 z = z := w32_id ⟨h1, h2⟩
theorem w_okL {z : Int} (h1 : -9223372036854775808 ≤ z) (h2 : z < 9223372036854775808) : w64 z = z := w64_id ⟨h1, h2⟩
theorem w_div {a b : Int} (h1 : -2147483647 ≤ a) (h2 : a < 2147483648) (h3 : 0 < b) : w32 (Int.tdiv a b) = Int.tdiv a b := by
  refine w_ok ?_ ?_
  · rcases Int.le_total 0 a with h | h
    · have := Int.tdiv_nonneg h (by omega : (0 : Int) ≤ b); omega
    · have h5 : Int.tdiv a b = -(Int.tdiv (-a) b) := by rw [Int.neg_tdiv, Int.neg_neg]
      have h6 := Int.tdiv_le_self b (by omega : (0 : Int) ≤ -a)
      omega
  · rcases Int.le_total 0 a with h | h
    · have := Int.tdiv_le_self b h; omega
    · have h5 : Int.tdiv a b = -(Int.tdiv (-a) b) := by rw [Int.neg_tdiv, Int.neg_neg]
      have h6 := Int.tdiv_nonneg (by omega : (0 : Int) ≤ -a) (by omega : (0 : Int) ≤ b)
      omega
theorem emod_le {a b : Int} (ha : 0 ≤ a) (hb : 0 < b) : a % b ≤ a := by
  rcases Int.lt_or_le a b with h | h
  · rw [Int.emod_eq_of_lt ha h]; omega
  · have := Int.emod_lt_of_pos a hb
    omega
theorem w_rem {a b : Int} (h1 : -2147483648 ≤ a) (h2 : a < 2147483648) (h3 : 0 < b) : w32 (Int.tmod a b) = Int.tmod a b := by
  refine w_ok ?_ ?_
  · rcases Int.le_total 0 a with h | h
    · have := Int.tmod_nonneg b h; omega
    · have h5 : Int.tmod a b = -(Int.tmod (-a) b) := by rw [Int.neg_tmod, Int.neg_neg]
      have h6 : Int.tmod (-a) b ≤ -a := by
        rw [Int.tmod_eq_emod_of_nonneg (by omega)]
        exact emod_le (by omega) (by omega)
      omega
  · rcases Int.le_total 0 a with h | h
    · have h6 : Int.tmod a b ≤ a := by
        rw [Int.tmod_eq_emod_of_nonneg h]
        exact emod_le h h3
      omega
    · have h5 : Int.tmod a b = -(Int.tmod (-a) b) := by rw [Int.neg_tmod, Int.neg_neg]
      have h6 := Int.tmod_nonneg b (by omega : (0 : Int) ≤ -a)
      omega
/-- a world's base -/
def isWd (w : Nat) : Prop := w = 1 ∨ w = 32
/-- a train's cell -/
def isTr (a : Nat) : Prop := a + 1 < 154 ∧ kd a = (6, 8) ∧ kd (a + 1) = (12, 4) ∧ spL.getD a [] = [(7, a + 1)] ∧ spL.getD (a + 1) [] = []
theorem tr_s {a k : Nat} (h : isTr a) (hk : k ≠ 7) : sp a k = none := by
  unfold sp
  rw [h.2.2.2.1]
  have e : (k == 7) = false := by simpa using hk
  simp [List.lookup, e]
theorem tr_p {a : Nat} (h : isTr a) : sp a 7 = some (a + 1) := by
  unfold sp
  rw [h.2.2.2.1]
  rfl
theorem tr_c {a k : Nat} (h : isTr a) : sp (a + 1) k = none := sp_nil h.2.2.2.2 k
theorem tr_w {w i : Nat} (hw : isWd w) (hi : i < 12) : isTr (w + 7 + 2 * i) := by
  have h : ∀ i, i < 12 → (1 + 7 + 2 * i + 1 < 154 ∧ kd (1 + 7 + 2 * i) = (6, 8) ∧ kd (1 + 7 + 2 * i + 1) = (12, 4) ∧ spL.getD (1 + 7 + 2 * i) [] = [(7, 1 + 7 + 2 * i + 1)] ∧ spL.getD (1 + 7 + 2 * i + 1) [] = []) ∧ (32 + 7 + 2 * i + 1 < 154 ∧ kd (32 + 7 + 2 * i) = (6, 8) ∧ kd (32 + 7 + 2 * i + 1) = (12, 4) ∧ spL.getD (32 + 7 + 2 * i) [] = [(7, 32 + 7 + 2 * i + 1)] ∧ spL.getD (32 + 7 + 2 * i + 1) [] = []) := by decide +kernel
  rcases hw with rfl | rfl
  · exact (h i hi).1
  · exact (h i hi).2
theorem tr_a {w i : Nat} (hw : isWd w) (hi : i < 12) : sp (w + 2) i = some (w + 7 + 2 * i) := by
  have h : ∀ i, i < 12 → sp (1 + 2) i = some (1 + 7 + 2 * i) ∧ sp (32 + 2) i = some (32 + 7 + 2 * i) := by decide +kernel
  rcases hw with rfl | rfl
  · exact (h i hi).1
  · exact (h i hi).2
/-- a sheet's cell -/
def isSh (a : Nat) : Prop := a + 1 < 154 ∧ kd a = (1, 3) ∧ kd (a + 1) = (12, 24) ∧ spL.getD a [] = [(2, a + 1)] ∧ spL.getD (a + 1) [] = []
theorem sh_s {a k : Nat} (h : isSh a) (hk : k ≠ 2) : sp a k = none := by
  unfold sp
  rw [h.2.2.2.1]
  have e : (k == 2) = false := by simpa using hk
  simp [List.lookup, e]
theorem sh_p {a : Nat} (h : isSh a) : sp a 2 = some (a + 1) := by
  unfold sp
  rw [h.2.2.2.1]
  rfl
theorem sh_c {a k : Nat} (h : isSh a) : sp (a + 1) k = none := sp_nil h.2.2.2.2 k
theorem sh_i {i : Nat} (hi : i < 4) : isSh (90 + 2 * i) ∧ sp 87 i = some (90 + 2 * i) := by
  have h : ∀ i, i < 4 → (90 + 2 * i + 1 < 154 ∧ kd (90 + 2 * i) = (1, 3) ∧ kd (90 + 2 * i + 1) = (12, 24) ∧ spL.getD (90 + 2 * i) [] = [(2, 90 + 2 * i + 1)] ∧ spL.getD (90 + 2 * i + 1) [] = []) ∧ sp 87 i = some (90 + 2 * i) := by decide +kernel
  exact h i hi
theorem sl_i {i : Nat} (hi : i < 5) : sp 88 i = some (98 + 5 * i) ∧ kd (98 + 5 * i) = (2, 4) ∧ 98 + 5 * i + 4 < 154 ∧ sp (98 + 5 * i) 0 = none ∧ sp (98 + 5 * i) 1 = none ∧ sp (98 + 5 * i) 2 = some (98 + 5 * i + 1) ∧ sp (98 + 5 * i) 3 = some (98 + 5 * i + 3) ∧ isTr (98 + 5 * i + 1) ∧ isSh (98 + 5 * i + 3) := by
  have h : ∀ i, i < 5 → sp 88 i = some (98 + 5 * i) ∧ kd (98 + 5 * i) = (2, 4) ∧ 98 + 5 * i + 4 < 154 ∧ sp (98 + 5 * i) 0 = none ∧ sp (98 + 5 * i) 1 = none ∧ sp (98 + 5 * i) 2 = some (98 + 5 * i + 1) ∧ sp (98 + 5 * i) 3 = some (98 + 5 * i + 3) ∧ (98 + 5 * i + 1 + 1 < 154 ∧ kd (98 + 5 * i + 1) = (6, 8) ∧ kd (98 + 5 * i + 1 + 1) = (12, 4) ∧ spL.getD (98 + 5 * i + 1) [] = [(7, 98 + 5 * i + 1 + 1)] ∧ spL.getD (98 + 5 * i + 1 + 1) [] = []) ∧ (98 + 5 * i + 3 + 1 < 154 ∧ kd (98 + 5 * i + 3) = (1, 3) ∧ kd (98 + 5 * i + 3 + 1) = (12, 24) ∧ spL.getD (98 + 5 * i + 3) [] = [(2, 98 + 5 * i + 3 + 1)] ∧ spL.getD (98 + 5 * i + 3 + 1) [] = []) := by decide +kernel
  exact h i hi
theorem w_divN {a b : Int} (h1 : 0 ≤ a) (h2 : a < 2147483648) (h3 : 0 < b) : w32 (Int.tdiv a b) = a / b := by
  rw [w_div (by omega) h2 h3, Int.tdiv_eq_ediv_of_nonneg h1]
theorem w_remN {a b : Int} (h1 : 0 ≤ a) (h2 : a < 2147483648) (h3 : 0 < b) : w32 (Int.tmod a b) = a % b := by
  rw [w_rem (by omega) h2 h3, Int.tmod_eq_emod_of_nonneg h1]
/-- P, where a is one of 0 .. b - 1 (a word of its own, so that omega leaves it alone) -/
def Im (a b : Int) (P : Prop) : Prop := 0 ≤ a → a < b → P
/-- Q, where P (omega leaves it alone) -/
def Ip (P Q : Prop) : Prop := P → Q
theorem w_div10 {a b : Int} (h1 : -2147483648 ≤ a) (h2 : a < 2147483648) (h3 : 1 < b) : w32 (Int.tdiv a b) = Int.tdiv a b := by
  rcases Int.le_total 0 a with h | h
  · exact w_div (by omega) h2 (by omega)
  · have h5 : Int.tdiv a b = -(Int.tdiv (-a) b) := by rw [Int.neg_tdiv, Int.neg_neg]
    have h6 := Int.tdiv_nonneg (by omega : (0 : Int) ≤ -a) (by omega : (0 : Int) ≤ b)
    have h7 := Int.tdiv_le_self b (by omega : (0 : Int) ≤ -a)
    exact w_ok (by omega) (by omega)
theorem w_okN {z z' : Int} (h1 : -2147483648 ≤ z) (h2 : z < 2147483648) (e : z = z') : w32 z = z' := by rw [w_ok h1 h2, e]
theorem cpy_0 (f g : Nat → Int) : cpy f g 0 0 0 = g := by
  funext k
  unfold cpy
  rw [if_neg (by omega)]
theorem cpy_s (f g : Nat → Int) (k : Nat) : up (cpy f g 0 0 k) k (f k) = cpy f g 0 0 (k + 1) := by
  funext j
  unfold up cpy
  by_cases h1 : j = k
  · subst h1
    rw [if_pos rfl, if_pos (by omega)]
    congr 1
    omega
  · rw [if_neg h1]
    by_cases h2 : j < k
    · rw [if_pos (by omega), if_pos (by omega)]
    · rw [if_neg (by omega), if_neg (by omega)]
/-- v at the places a .. a + n - 1 -/
def segF (v : Int) (a n : Nat) (f : Nat → Int) : Nat → Int := fun k => if a ≤ k ∧ k < a + n then v else f k
theorem segF_0 (v : Int) (a : Nat) (f : Nat → Int) : segF v a 0 f = f := by
  funext k
  unfold segF
  rw [if_neg (by omega)]
theorem segF_s {v : Int} {a n k : Nat} {f : Nat → Int} (hk : k = a + n) : up (segF v a n f) k v = segF v a (n + 1) f := by
  funext j
  unfold up segF
  by_cases h1 : j = k
  · rw [if_pos h1, if_pos (by omega)]
  · rw [if_neg h1]
    by_cases h2 : a ≤ j ∧ j < a + n
    · rw [if_pos h2, if_pos (by omega)]
    · rw [if_neg h2, if_neg (by omega)]
/-- g's places b .. b + n - 1 come to a .. a + n - 1 -/
theorem cpyG_s {f g : Nat → Int} {a b n k j : Nat} (hk : k = a + n) (hj : j = b + n) : up (cpy f g b a n) k (f j) = cpy f g b a (n + 1) := by
  funext i
  unfold up cpy
  by_cases h1 : i = k
  · subst h1
    rw [if_pos rfl, if_pos (by omega)]
    congr 1
    omega
  · rw [if_neg h1]
    by_cases h2 : a ≤ i ∧ i < a + n
    · rw [if_pos h2, if_pos (by omega)]
    · rw [if_neg h2, if_neg (by omega)]
theorem cpyG_0 (f g : Nat → Int) (a b : Nat) : cpy f g b a 0 = g := by
  funext k
  unfold cpy
  rw [if_neg (by omega)]
theorem nar_b8 (a : Int) : vp_nar .byte (Int32.ofInt (b8 a)) = Int32.ofInt (b8 a) := by
  have e : Int32.ofInt (b8 a) = (Int32.ofInt a).toInt8.toInt32 := i32_of _
  rw [e]
  exact pk_vb _
