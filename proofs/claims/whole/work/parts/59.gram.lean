/-- a token: its kind, where it starts, where it ends -/
abbrev Tk := Int × Nat × Nat
def skp (B : Nat → Int) : Nat → Nat → Nat
  | 0, i => i
  | f + 1, i => if B i = 32 then skp B f (i + 1) else i
def rnn (B : Nat → Int) (q : Int) : Nat → Nat → Nat
  | 0, i => i
  | f + 1, i => if soF (B i) = q then rnn B q f (i + 1) else i
/-- the token behind t -/
def nxt (B : Nat → Int) (n : Nat) (t : Tk) : Tk :=
  if n ≤ skp B (n - t.2.2) t.2.2 then (0, skp B (n - t.2.2) t.2.2, skp B (n - t.2.2) t.2.2)
  else if soF (B (skp B (n - t.2.2) t.2.2)) = 3 then (3, skp B (n - t.2.2) t.2.2, skp B (n - t.2.2) t.2.2 + 1)
  else (if skp B (n - t.2.2) t.2.2 = t.2.2 ∧ (t.1 = 1 ∨ t.1 = 2) then 4 else soF (B (skp B (n - t.2.2) t.2.2)), skp B (n - t.2.2) t.2.2, rnn B (soF (B (skp B (n - t.2.2) t.2.2))) (n - (skp B (n - t.2.2) t.2.2 + 1)) (skp B (n - t.2.2) t.2.2 + 1))
def numF (B : Nat → Int) (s : Nat) : Nat → Int
  | 0 => 0
  | j + 1 => 10 * numF B s j + B (s + j) - 48
def nmF (K g : Int) : Int := if K = 0 then (if g = 107 then 0 else if g = 110 then 1 else if g = 100 then 2 else -1) else if K = 1 then (if g = 110 then 0 else if g = 100 then 1 else -1) else (if g = 115 then 0 else if g = 119 then 1 else if g = 100 then 2 else -1)
/-- the code of a leaf, or -1 -/
def lfc (B : Nat → Int) (K : Int) (t : Tk) : Int := if t.1 = 2 then (if t.2.2 - t.2.1 ≤ 4 then numF B t.2.1 (t.2.2 - t.2.1) else -1) else if t.2.2 - t.2.1 = 1 ∧ 0 ≤ nmF K (B t.2.1) then 10000 + nmF K (B t.2.1) else -1
def rkF (g : Int) : Int := if g = -1 then 1 else if g = -2 then 2 else if -5 ≤ g then 3 else if -7 ≤ g then 4 else if -9 ≤ g then 5 else 6
/-- the sign of a token, or 0 -/
def sgT (B : Nat → Int) (t : Tk) : Int := if t.1 = 3 then sgF (B t.2.1) else 0
def jnT (B : Nat → Int) (L : Nat) (t : Tk) : Prop := ¬ sgT B t = 0 ∧ rkF (sgT B t) = (L : Int) + 1
/-- the grammar's clauses: mode (0..4 a level, 5 a piece, 10.. the rest of a level), open, nots, from t (taken or not) to t' with codes -/
def GCl (B : Nat → Int) (n : Nat) (K : Int) (P : Nat → Nat → Nat → Tk → Bool → Tk → List Int → Prop) : Prop :=
  (∀ (o k : Nat) (t : Tk), (t.1 = 1 ∨ t.1 = 2) → ¬ lfc B K t = -1 → P 5 o k t true (nxt B n t) [lfc B K t]) ∧
  (∀ (o k : Nat) (t : Tk), (t.1 = 1 ∨ t.1 = 2) → lfc B K t = -1 → P 5 o k t false t []) ∧
  (∀ (o k : Nat) (t t' : Tk) (b : Bool) (cs : List Int), t.1 = 3 → B t.2.1 = 33 → k < 8 → P 5 o (k + 1) (nxt B n t) b t' cs → P 5 o k t b t' (cs ++ [-10])) ∧
  (∀ (o k : Nat) (t t' : Tk) (cs : List Int), t.1 = 3 → B t.2.1 = 40 → o < 8 → P 0 (o + 1) k (nxt B n t) true t' cs → t'.1 = 3 → B t'.2.1 = 41 → P 5 o k t true (nxt B n t') cs) ∧
  (∀ (o k : Nat) (t t' : Tk) (cs : List Int), t.1 = 3 → B t.2.1 = 40 → o < 8 → P 0 (o + 1) k (nxt B n t) false t' cs → P 5 o k t false t' []) ∧
  (∀ (o k : Nat) (t t' : Tk) (cs : List Int), t.1 = 3 → B t.2.1 = 40 → o < 8 → P 0 (o + 1) k (nxt B n t) true t' cs → ¬ (t'.1 = 3 ∧ B t'.2.1 = 41) → P 5 o k t false t' []) ∧
  (∀ (o k : Nat) (t : Tk), ¬ (t.1 = 1 ∨ t.1 = 2) → ¬ (t.1 = 3 ∧ B t.2.1 = 33 ∧ k < 8) → ¬ (t.1 = 3 ∧ B t.2.1 = 40 ∧ o < 8) → P 5 o k t false t []) ∧
  (∀ (L o k : Nat) (t t1 t' : Tk) (b : Bool) (c1 c2 : List Int), L < 5 → P (L + 1) o k t true t1 c1 → P (10 + L) o k t1 b t' c2 → P L o k t b t' (c1 ++ c2)) ∧
  (∀ (L o k : Nat) (t t' : Tk) (c : List Int), L < 5 → P (L + 1) o k t false t' c → P L o k t false t' []) ∧
  (∀ (L o k : Nat) (t : Tk), L < 5 → ¬ jnT B L t → P (10 + L) o k t true t []) ∧
  (∀ (L o k : Nat) (t t1 t' : Tk) (b : Bool) (c1 c2 : List Int), L < 5 → ¬ L = 2 → jnT B L t → P (L + 1) o k (nxt B n t) true t1 c1 → P (10 + L) o k t1 b t' c2 → P (10 + L) o k t b t' (c1 ++ [sgT B t] ++ c2)) ∧
  (∀ (o k : Nat) (t t1 : Tk) (c1 : List Int), jnT B 2 t → P 3 o k (nxt B n t) true t1 c1 → P 12 o k t true t1 (c1 ++ [sgT B t])) ∧
  (∀ (L o k : Nat) (t t' : Tk) (c : List Int), L < 5 → jnT B L t → P (L + 1) o k (nxt B n t) false t' c → P (10 + L) o k t false t' [])
/-- the least that is closed under them -/
def GR (B : Nat → Int) (n : Nat) (K : Int) (m o k : Nat) (t : Tk) (b : Bool) (t' : Tk) (cs : List Int) : Prop := ∀ P : Nat → Nat → Nat → Tk → Bool → Tk → List Int → Prop, GCl B n K P → P m o k t b t' cs
theorem gr_leaf {B : Nat → Int} {n : Nat} {K : Int} : ∀ (o k : Nat) (t : Tk), (t.1 = 1 ∨ t.1 = 2) → ¬ lfc B K t = -1 → GR B n K 5 o k t true (nxt B n t) [lfc B K t] := by
  intro o k t h0 h1 P hP
  exact hP.1 o k t h0 h1
theorem gr_leafF {B : Nat → Int} {n : Nat} {K : Int} : ∀ (o k : Nat) (t : Tk), (t.1 = 1 ∨ t.1 = 2) → lfc B K t = -1 → GR B n K 5 o k t false t [] := by
  intro o k t h0 h1 P hP
  exact hP.2.1 o k t h0 h1
theorem gr_notT {B : Nat → Int} {n : Nat} {K : Int} : ∀ (o k : Nat) (t t' : Tk) (b : Bool) (cs : List Int), t.1 = 3 → B t.2.1 = 33 → k < 8 → GR B n K 5 o (k + 1) (nxt B n t) b t' cs → GR B n K 5 o k t b t' (cs ++ [-10]) := by
  intro o k t t' b cs h0 h1 h2 h3 P hP
  exact hP.2.2.1 o k t t' b cs h0 h1 h2 (h3 P hP)
theorem gr_parT {B : Nat → Int} {n : Nat} {K : Int} : ∀ (o k : Nat) (t t' : Tk) (cs : List Int), t.1 = 3 → B t.2.1 = 40 → o < 8 → GR B n K 0 (o + 1) k (nxt B n t) true t' cs → t'.1 = 3 → B t'.2.1 = 41 → GR B n K 5 o k t true (nxt B n t') cs := by
  intro o k t t' cs h0 h1 h2 h3 h4 h5 P hP
  exact hP.2.2.2.1 o k t t' cs h0 h1 h2 (h3 P hP) h4 h5
theorem gr_parF {B : Nat → Int} {n : Nat} {K : Int} : ∀ (o k : Nat) (t t' : Tk) (cs : List Int), t.1 = 3 → B t.2.1 = 40 → o < 8 → GR B n K 0 (o + 1) k (nxt B n t) false t' cs → GR B n K 5 o k t false t' [] := by
  intro o k t t' cs h0 h1 h2 h3 P hP
  exact hP.2.2.2.2.1 o k t t' cs h0 h1 h2 (h3 P hP)
theorem gr_parG {B : Nat → Int} {n : Nat} {K : Int} : ∀ (o k : Nat) (t t' : Tk) (cs : List Int), t.1 = 3 → B t.2.1 = 40 → o < 8 → GR B n K 0 (o + 1) k (nxt B n t) true t' cs → ¬ (t'.1 = 3 ∧ B t'.2.1 = 41) → GR B n K 5 o k t false t' [] := by
  intro o k t t' cs h0 h1 h2 h3 h4 P hP
  exact hP.2.2.2.2.2.1 o k t t' cs h0 h1 h2 (h3 P hP) h4
theorem gr_othF {B : Nat → Int} {n : Nat} {K : Int} : ∀ (o k : Nat) (t : Tk), ¬ (t.1 = 1 ∨ t.1 = 2) → ¬ (t.1 = 3 ∧ B t.2.1 = 33 ∧ k < 8) → ¬ (t.1 = 3 ∧ B t.2.1 = 40 ∧ o < 8) → GR B n K 5 o k t false t [] := by
  intro o k t h0 h1 h2 P hP
  exact hP.2.2.2.2.2.2.1 o k t h0 h1 h2
theorem gr_lev {B : Nat → Int} {n : Nat} {K : Int} : ∀ (L o k : Nat) (t t1 t' : Tk) (b : Bool) (c1 c2 : List Int), L < 5 → GR B n K (L + 1) o k t true t1 c1 → GR B n K (10 + L) o k t1 b t' c2 → GR B n K L o k t b t' (c1 ++ c2) := by
  intro L o k t t1 t' b c1 c2 h0 h1 h2 P hP
  exact hP.2.2.2.2.2.2.2.1 L o k t t1 t' b c1 c2 h0 (h1 P hP) (h2 P hP)
theorem gr_levF {B : Nat → Int} {n : Nat} {K : Int} : ∀ (L o k : Nat) (t t' : Tk) (c : List Int), L < 5 → GR B n K (L + 1) o k t false t' c → GR B n K L o k t false t' [] := by
  intro L o k t t' c h0 h1 P hP
  exact hP.2.2.2.2.2.2.2.2.1 L o k t t' c h0 (h1 P hP)
theorem gr_lpE {B : Nat → Int} {n : Nat} {K : Int} : ∀ (L o k : Nat) (t : Tk), L < 5 → ¬ jnT B L t → GR B n K (10 + L) o k t true t [] := by
  intro L o k t h0 h1 P hP
  exact hP.2.2.2.2.2.2.2.2.2.1 L o k t h0 h1
theorem gr_lpS {B : Nat → Int} {n : Nat} {K : Int} : ∀ (L o k : Nat) (t t1 t' : Tk) (b : Bool) (c1 c2 : List Int), L < 5 → ¬ L = 2 → jnT B L t → GR B n K (L + 1) o k (nxt B n t) true t1 c1 → GR B n K (10 + L) o k t1 b t' c2 → GR B n K (10 + L) o k t b t' (c1 ++ [sgT B t] ++ c2) := by
  intro L o k t t1 t' b c1 c2 h0 h1 h2 h3 h4 P hP
  exact hP.2.2.2.2.2.2.2.2.2.2.1 L o k t t1 t' b c1 c2 h0 h1 h2 (h3 P hP) (h4 P hP)
theorem gr_lpT {B : Nat → Int} {n : Nat} {K : Int} : ∀ (o k : Nat) (t t1 : Tk) (c1 : List Int), jnT B 2 t → GR B n K 3 o k (nxt B n t) true t1 c1 → GR B n K 12 o k t true t1 (c1 ++ [sgT B t]) := by
  intro o k t t1 c1 h0 h1 P hP
  exact hP.2.2.2.2.2.2.2.2.2.2.2.1 o k t t1 c1 h0 (h1 P hP)
theorem gr_lpF {B : Nat → Int} {n : Nat} {K : Int} : ∀ (L o k : Nat) (t t' : Tk) (c : List Int), L < 5 → jnT B L t → GR B n K (L + 1) o k (nxt B n t) false t' c → GR B n K (10 + L) o k t false t' [] := by
  intro L o k t t' c h0 h1 h2 P hP
  exact hP.2.2.2.2.2.2.2.2.2.2.2.2 L o k t t' c h0 h1 (h2 P hP)
def isNt (x : Int) : Bool := decide (x = -10)
/-- nots that wait -/
def ntc (W : List Int) : Nat := W.countP isNt
/-- what each step of the reference's loop asks of a claim G over its states -/
def SYC (B : Nat → Int) (n : Nat) (K : Int) (Fl : Tk → Prop) (G : Tk → List Int → List Int → Nat → Bool → (Nat → Bool) → Prop) : Prop :=
  (∀ (t : Tk) (W C : List Int) (o : Nat) (T : Nat → Bool), t.1 = 3 → B t.2.1 = 33 → ntc W < 8 → G (nxt B n t) (-10 :: W) C o true T → G t W C o true T) ∧
  (∀ (t : Tk) (W C : List Int) (o : Nat) (T : Nat → Bool), t.1 = 3 → B t.2.1 = 40 → o < 8 → G (nxt B n t) (-11 :: W) C (o + 1) true (fun j => if j = o + 1 then false else T j) → G t W C o true T) ∧
  (∀ (t : Tk) (W C : List Int) (o : Nat) (T : Nat → Bool), (t.1 = 1 ∨ t.1 = 2) → ¬ lfc B K t = -1 → G (nxt B n t) (W.dropWhile isNt) (C ++ [lfc B K t] ++ W.takeWhile isNt) o false T → G t W C o true T) ∧
  (∀ (t : Tk) (W C : List Int) (o : Nat) (T : Nat → Bool), ((t.1 = 1 ∨ t.1 = 2) → lfc B K t = -1) → ¬ (t.1 = 3 ∧ B t.2.1 = 33 ∧ ntc W < 8) → ¬ (t.1 = 3 ∧ B t.2.1 = 40 ∧ o < 8) → Fl t → G t W C o true T) ∧
  (∀ (t : Tk) (p W C : List Int) (o : Nat) (T : Nat → Bool), t.1 = 3 → B t.2.1 = 41 → (∀ x : Int, x ∈ p → ¬ x = -11) → G (nxt B n t) (W.dropWhile isNt) (C ++ p ++ W.takeWhile isNt) o false T → G t (p ++ -11 :: W) C (o + 1) false T) ∧
  (∀ (t : Tk) (p W C : List Int) (o : Nat) (T : Nat → Bool), ¬ sgT B t = 0 → ¬ (rkF (sgT B t) = 3 ∧ T o = true) → (∀ x : Int, x ∈ p → ¬ x = -11 ∧ rkF (sgT B t) ≤ rkF x) → (∀ (x : Int) (r : List Int), W = x :: r → x = -11 ∨ rkF x < rkF (sgT B t)) → G (nxt B n t) (sgT B t :: W) (C ++ p) o true (fun j => if j = o then (decide (rkF (sgT B t) = 3) || (decide (3 < rkF (sgT B t)) && T j)) else T j) → G t (p ++ W) C o false T) ∧
  (∀ (t : Tk) (W C : List Int) (o : Nat) (T : Nat → Bool), ¬ t.1 = 0 → ¬ (t.1 = 3 ∧ B t.2.1 = 41 ∧ 0 < o) → (sgT B t = 0 ∨ (rkF (sgT B t) = 3 ∧ T o = true)) → Fl t → G t W C o false T) ∧
  (∀ (t : Tk) (W C : List Int) (o : Nat) (T : Nat → Bool), t.1 = 0 → Fl t → G t W C (o + 1) false T)
/-- what stands on top, down to the next open bracket, binds looser than level L -/
def lowT (L : Nat) (W : List Int) : Prop := ∀ (x : Int) (r : List Int), W = x :: r → x = -11 ∨ rkF x ≤ (L : Int)
/-- behind a level L no sign can join -/
def qT (B : Nat → Int) (L o : Nat) (t : Tk) (T : Nat → Bool) : Prop := ¬ sgT B t = 0 → (L : Int) + 1 ≤ rkF (sgT B t) → rkF (sgT B t) = 3 ∧ L ≤ 2 ∧ T o = true
theorem lowT_nt {L : Nat} {W : List Int} (hL : L ≤ 5) (h : lowT L W) : W.dropWhile isNt = W ∧ W.takeWhile isNt = [] := by
  cases W with
  | nil => exact ⟨rfl, rfl⟩
  | cons x r =>
    have e : isNt x = false := by
      unfold isNt
      refine decide_eq_false ?_
      intro hx
      rcases h x r rfl with q | q
      · omega
      · subst hx
        have : rkF (-10) = 6 := by decide
        omega
    exact ⟨by rw [List.dropWhile_cons]; simp [e], by rw [List.takeWhile_cons]; simp [e]⟩
/-- what the claim G gives in each mode -/
def GRS (B : Nat → Int) (n : Nat) (K : Int) (Fl : Tk → Prop) (G : Tk → List Int → List Int → Nat → Bool → (Nat → Bool) → Prop) (m o k : Nat) (t : Tk) (b : Bool) (t' : Tk) (cs : List Int) : Prop :=
  (m = 5 → ∀ (W C : List Int) (T : Nat → Bool), ntc W = k → (b = true → ∀ T' : Nat → Bool, (∀ j : Nat, j ≤ o → T' j = T j) → G t' (W.dropWhile isNt) (C ++ cs ++ W.takeWhile isNt) o false T') → (b = false → Fl t') → G t W C o true T) ∧
  (m < 5 → ∀ (W C : List Int) (T : Nat → Bool), ntc W = k → lowT m W → (m ≤ 2 → T o = false) → (b = true → ∀ (T' : Nat → Bool) (c p : List Int), c ++ p = cs → (∀ x : Int, x ∈ p → ¬ x = -11 ∧ (m : Int) + 1 ≤ rkF x ∧ rkF x ≤ 5) → (∀ j : Nat, j < o → T' j = T j) → (3 ≤ m → T' o = T o) → qT B m o t' T' → G t' (p ++ W) (C ++ c) o false T') → (b = false → Fl t') → G t W C o true T) ∧
  (∀ L : Nat, m = 10 + L → L < 5 → ∀ (W C : List Int) (T : Nat → Bool) (c0 p0 : List Int), ntc W = k → lowT L W → (L = 2 → T o = false) → (∀ x : Int, x ∈ p0 → ¬ x = -11 ∧ (L : Int) + 1 ≤ rkF x ∧ rkF x ≤ 5) → qT B (L + 1) o t T → (b = true → ∀ (T' : Nat → Bool) (c p : List Int), c ++ p = c0 ++ p0 ++ cs → (∀ x : Int, x ∈ p → ¬ x = -11 ∧ (L : Int) + 1 ≤ rkF x ∧ rkF x ≤ 5) → (∀ j : Nat, j < o → T' j = T j) → (3 ≤ L → T' o = T o) → qT B L o t' T' → G t' (p ++ W) (C ++ c) o false T') → (b = false → Fl t') → G t (p0 ++ W) (C ++ c0) o false T)
