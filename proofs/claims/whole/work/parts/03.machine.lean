/-! THE ABSTRACT MACHINE: values are a tag and a whole number, the heap is a list of cells (kind, length, numbers), a reference is a place in that list -/
abbrev AV : Type := Nat × Int
abbrev vI (z : Int) : AV := (0, z)
abbrev vL (z : Int) : AV := (1, z)
abbrev vA (a : Nat) : AV := (2, (a : Int))
abbrev vN : AV := (2, -1)
abbrev vK (k : Nat) : AV := (3, (k : Int))
abbrev AC : Type := Nat × Nat × (Nat → Int)
abbrev MT : Type := MethodName × ByteArray × Nat × Option FieldType
abbrev GT : Type := Launch × (Nat → ClassId) × (Nat → Nat → Nat) × (Nat → ClassId) × Nat × (Nat → Nat) × Nat × (Nat → Int32)
abbrev g_l (γ : GT) : Launch := γ.1
abbrev g_D (γ : GT) : va_G := (γ.2.1, γ.2.2.1)
abbrev g_dA (γ : GT) : Nat → ClassId := γ.2.2.2.1
abbrev g_b (γ : GT) : Nat := γ.2.2.2.2.1
abbrev g_k (γ : GT) : Nat → Nat := γ.2.2.2.2.2.1
abbrev g_L (γ : GT) : Nat := γ.2.2.2.2.2.2.1
abbrev g_x (γ : GT) : Nat → Int32 := γ.2.2.2.2.2.2.2
abbrev g_A (γ : GT) : Nat → Prop := fun q => g_b γ ≤ q
def inI (z : Int) : Prop := -2147483648 ≤ z ∧ z < 2147483648
def inL (z : Int) : Prop := -9223372036854775808 ≤ z ∧ z < 9223372036854775808
def w32 (z : Int) : Int := z.bmod 4294967296
def w64 (z : Int) : Int := z.bmod 18446744073709551616
def up (f : Nat → Int) (k : Nat) (v : Int) : Nat → Int := fun j => if j = k then v else f j
def cv (γ : GT) (ρ : Nat → Nat) (v : AV) : Value := match v.1 with
  | 0 => .int (Int32.ofInt v.2)
  | 1 => .long (Int64.ofInt v.2)
  | 2 => if v.2 < 0 then .null else .ref (ρ v.2.toNat)
  | _ => .ref (g_k γ v.2.toNat)
def okv (n : Nat) (v : AV) : Prop := match v.1 with
  | 0 => inI v.2
  | 1 => inL v.2
  | 2 => v.2 < (n : Int)
  | _ => True
/-- the tags of the fields, by kinds -/
def etab : List (List Nat) := [[0, 2, 0, 0], [0, 0, 2], [0, 0, 2, 2], [2, 0, 0, 0, 0, 0, 0, 0, 2], [0, 0, 2], [0, 0, 0, 0, 2, 2, 2, 2, 2, 2, 2, 2, 2, 0, 2, 2, 2, 2, 2], [0, 0, 0, 0, 0, 0, 0, 2], [0, 0, 2, 0, 2, 0, 2, 0, 2, 0, 0, 0, 0, 2, 2, 0], [2, 2, 0, 0, 2, 2, 2, 2, 0, 2, 2, 2, 0, 2],
  [2, 2, 2, 0, 0, 2, 2, 2, 2, 0, 2, 2, 2, 2, 2, 2, 2, 0, 0, 0, 0, 0, 0, 0, 2, 2, 2, 0, 0, 2, 0, 2, 2, 2, 0, 2, 2, 2, 2, 2, 2, 2, 2, 2, 0]]
def et (κ j : Nat) : Nat := if κ < 10 then (etab.getD κ []).getD j 0 else if κ = 13 then 1 else if κ < 15 then 0 else 2
def okc (n : Nat) (c : AC) : Prop := ∀ j, okv n (et c.1 j, c.2.2 j)
def okS (σ : List AC) : Prop := ∀ (k : Nat) (c : AC), σ[k]? = some c → okc σ.length c
def carr (ρ : Nat → Nat) (κ : Nat) (f : Nat → Int) : (Nat → Int32) ⊕ (Nat → Int64) ⊕ (Nat → UInt32) ⊕ (Nat → UInt64) ⊕ (Nat → Option Nat) :=
  if κ = 13 then .inr (.inl fun j => Int64.ofInt (f j)) else if κ < 15 then .inl (fun j => Int32.ofInt (f j)) else .inr (.inr (.inr (.inr fun j => if f j < 0 then none else some (ρ (f j).toNat))))
def conc (γ : GT) (ρ : Nat → Nat) (c : AC) : va_E := if c.1 < 10 then .inr (c.1, (List.range c.2.1).map fun j => cv γ ρ (et c.1 j, c.2.2 j)) else .inl (g_dA γ c.1, c.2.1, carr ρ c.1 c.2.2)
def wl (γ : GT) (ρ : Nat → Nat) (σ : List AC) : va_W := σ.mapIdx (fun k c => (ρ k, conc γ ρ c))
def tysL (γ : GT) : List (ClassId × FieldType) := [(g_dA γ 10, .byte), (g_dA γ 11, .char), (g_dA γ 12, .int), (g_dA γ 13, .long), (g_dA γ 14, .boolean), (g_dA γ 15, .object RX1), (g_dA γ 16, .object RX2), (g_dA γ 17, .object RX4), (g_dA γ 18, .object RX6)]
def isNest : Cond → Bool
  | .fieldLinkNest .. => true
  | .methodLinkNest .. => true
  | _ => false
/-- the words of the tables that any call may carry -/
def gtb : List Cond := lw_tbl.filter goodWord
def sidx : List Nat := [82, 84, 86, 88, 90, 92, 120, 122, 124, 126, 128]
def stx : List String := ["waits", "tide", "walk", "knd", "nd", "swd", "|", "&", "<=>", "+-", "*/"]
def slen : List Nat := [5, 4, 4, 3, 2, 3, 1, 1, 3, 2, 2]
def sbyt : List (List Int32) := [[119, 97, 105, 116, 115], [116, 105, 100, 101], [119, 97, 108, 107], [107, 110, 100], [110, 100], [115, 119, 100], [124], [38], [60, 61, 62], [43, 45], [42, 47]]
def abv : List Int32 := [-1, 0, 0, 1, 2, 0]
/-- what never changes: the script, the table ABOVE, the texts' constants -/
def Zc (γ : GT) (U : State) (H : Heap) : Prop :=
  va_X (g_k γ 0) (g_L γ) (g_x γ) U H ∧ g_k γ 0 < g_b γ ∧ va_Z RX8 "ABOVE" "[I" (.ref (g_k γ 1)) (g_A γ) U H ∧ va_T .int (g_k γ 1) 6 (fun j => .int (abv.getD j 0)) (g_A γ) U H ∧
  vk_S 11 slen sbyt (fun i => g_k γ (2 + 2 * i)) (fun i => g_k γ (3 + 2 * i)) (g_A γ) U H ∧ (∀ i, i < 11 → vk_R RX3 (sidx.getD i 0) (stx.getD i "") (g_k γ (2 + 2 * i)) U) ∧
  va_Z RJ0 "COMPACT_STRINGS" "Z" (.int 1) (g_A γ) U H ∧ (va_Z RJ3 "SIOOBE_FORMATTER" "Ljava/util/function/BiFunction;" .null (g_A γ) U H ∨ va_Z RJ3 "SIOOBE_FORMATTER" "Ljava/util/function/BiFunction;" (.ref (g_k γ 24)) (g_A γ) U H)
/-- what is known of the tables and of what never changes -/
def Ks (γ : GT) (U : State) : Prop := va_K (g_D γ) vwCl (tysL γ) U ∧ (∀ w ∈ lw_tbl, isNest w = true → va_Nw w U) ∧ (∀ C ∈ [RX1, RX2, RX4, RX6], va_AO C U) ∧ Zc γ U U.heap
def Hp (γ : GT) (ρ : Nat → Nat) (σ : List AC) (H : Heap) : Prop := va_P (g_D γ) vwCl (wl γ ρ σ) H ∧ va_D (g_A γ) (wl γ ρ σ) ∧ okS σ
def QC (γ : GT) (ρ : Nat → Nat) (n : Nat) (Post : Option AV → List AC → Prop) : Array Value → State → Outcome → State → Prop := fun _ st oc t =>
  (∃ (r : Option AV) (ρ' : Nat → Nat) (σ' : List AC), oc = .returned (r.map (cv γ ρ')) ∧ Post r σ' ∧ Hp γ ρ' σ' t.heap ∧ (∀ v, r = some v → okv σ'.length v) ∧ n ≤ σ'.length ∧ ∀ k, k < n → ρ' k = ρ k) ∧ va_F (g_A γ) st t
def rmd (d mc ms : Nat) : Room := { frames := d, cells := mc, slots := ms, locals := 64 * d }
def Cj (γ : GT) (Y : MT) (d mc ms : Nat) (as : List AV) (σ : List AC) (Post : Option AV → List AC → Prop) : Prop :=
  ∀ ρ : Nat → Nat, (∀ v ∈ as, okv σ.length v) → Met (g_l γ) Y.1 (Cond.code Y.1 Y.2.1 Y.2.2.1 Y.2.2.2 :: gtb) (rmd d mc ms) (va_Pc (as.map (cv γ ρ)) (fun U => Ks γ U ∧ Hp γ ρ σ U.heap ∧ g_b γ ≤ U.heap.size)) (QC γ ρ σ.length Post) mc ms (g_A γ)
def Fx (γ : GT) (Y : MT) (d mc ms : Nat) (p : Program) (R : Room) (s : State) (m : MethodId) (args : Array Value) (meth : Method) (c : Code) (cells slots : Nat) : Prop :=
  p.tables.exec = Jvm.exec ∧ c.code = Y.2.1 ∧ meth.sig.returnType = Y.2.2.2 ∧ meth.locks = false ∧ c.maxLocals = Y.2.2.1 ∧ s.vm.findClass Y.1.cls = some m.cls ∧ meth.name = Y.1.name ∧ (∀ w ∈ gtb, w.before args s = true) ∧ d ≤ R.frames ∧ 64 * d ≤ R.locals ∧ cells + mc ≤ R.cells ∧ slots + ms ≤ R.slots ∧ g_b γ ≤ s.heap.size ∧ Ks γ s
def lvc (γ : GT) (ρ : Nat → Nat) (lv : List (Nat × AV)) : List (Nat × Value) := lv.map fun q => (q.1, cv γ ρ q.2)
def Dy (γ : GT) (nL n0 : Nat) (ρ0 ρ : Nat → Nat) (lv : List (Nat × AV)) (st : List AV) (σ : List AC) (s : State) (H : Heap) (locs : List Loc) (ls : Array Slot) : Prop :=
  va_S (g_A γ) s.heap H locs ∧ Hp γ ρ σ H ∧ n0 ≤ σ.length ∧ (∀ k, k < n0 → ρ k = ρ0 k) ∧ (∀ v ∈ st, okv σ.length v) ∧ (∀ q ∈ lv, okv σ.length q.2) ∧ lv_has ls nL (lvc γ ρ lv)
/-- THE JUDGEMENT: method Y, at pc, with these locals, this stack, this store, comes to its end with Post; d frames, mc cells, ms slots may still be used -/
def Aj (γ : GT) (Y : MT) (d mc ms : Nat) (Post : Option AV → List AC → Prop) (pc : Nat) (lv : List (Nat × AV)) (st : List AV) (σ : List AC) : Prop :=
  ∀ (p : Program) (e : Env) (R : Room) (s : State) (m : MethodId) (args : Array Value) (below : List Frame) (meth : Method) (c : Code) (H : Heap) (locs : List Loc) (cells slots n0 : Nat) (ρ0 ρ : Nat → Nat) (ls : Array Slot),
    Fx γ Y d mc ms p R s m args meth c cells slots → Dy γ Y.2.2.1 n0 ρ0 ρ lv st σ s H locs ls →
    W p (g_l γ) e R s m args below meth c H locs cells slots (MQ below (QC γ ρ0 n0 Post) args s (cells + mc) (slots + ms) (g_A γ)) (F0 m pc ls (st.map (cv γ ρ)))
theorem inI_lit {z : Int} (h : -2147483648 ≤ z ∧ z < 2147483648) : inI z := h
theorem okv_mono {n n' : Nat} {v : AV} (h : okv n v) (hn : n ≤ n') : okv n' v := by
  obtain ⟨t, z⟩ := v
  match t with
  | 0 => exact h
  | 1 => exact h
  | 2 => exact Int.lt_of_lt_of_le h (Int.ofNat_le.mpr hn)
  | _ + 3 => trivial
theorem cv_ext {γ : GT} {n : Nat} {ρ ρ' : Nat → Nat} {v : AV} (h : okv n v) (he : ∀ k, k < n → ρ' k = ρ k) : cv γ ρ' v = cv γ ρ v := by
  obtain ⟨t, z⟩ := v
  match t with
  | 0 => rfl
  | 1 => rfl
  | 2 =>
    have hz : z < (n : Int) := h
    show (if z < 0 then Value.null else .ref (ρ' z.toNat)) = (if z < 0 then Value.null else .ref (ρ z.toNat))
    by_cases h0 : z < 0
    · rw [if_pos h0, if_pos h0]
    · rw [if_neg h0, if_neg h0, he z.toNat (by omega)]
  | _ + 3 => rfl
theorem conc_ext {γ : GT} {n : Nat} {ρ ρ' : Nat → Nat} {c : AC} (h : okc n c) (he : ∀ k, k < n → ρ' k = ρ k) : conc γ ρ' c = conc γ ρ c := by
  obtain ⟨κ, N, f⟩ := c
  unfold conc
  by_cases h1 : κ < 10
  · simp only [h1, if_true]
    congr 2
    exact List.map_congr_left fun j _ => cv_ext (h j) he
  · simp only [h1, if_false]
    unfold carr
    by_cases h2 : κ = 13
    · simp only [h2, if_true]
    · by_cases h3 : κ < 15
      · simp only [h2, h3, if_true, if_false]
      · simp only [h2, h3, if_false]
        have hf : (fun j => if f j < 0 then none else some (ρ' (f j).toNat)) = (fun j => if f j < 0 then none else some (ρ (f j).toNat)) := by
          funext j
          have hj : okv n (et κ j, f j) := h j
          have e2 : et κ j = 2 := by simp [et, h1, h2, h3]
          rw [e2] at hj
          have hj : f j < (n : Int) := hj
          by_cases h0 : f j < 0
          · rw [if_pos h0, if_pos h0]
          · rw [if_neg h0, if_neg h0, he (f j).toNat (by omega)]
        rw [hf]
theorem wl_get {γ : GT} {ρ : Nat → Nat} {σ : List AC} {k : Nat} {c : AC} (h : σ[k]? = some c) : (wl γ ρ σ)[k]? = some (ρ k, conc γ ρ c) := by
  simp [wl, List.getElem?_mapIdx, h]
theorem wl_inv {γ : GT} {ρ : Nat → Nat} {σ : List AC} {k : Nat} {q : Nat × va_E} (h : (wl γ ρ σ)[k]? = some q) : ∃ c, σ[k]? = some c ∧ q = (ρ k, conc γ ρ c) := by
  simp only [wl, List.getElem?_mapIdx, Option.map_eq_some_iff] at h
  obtain ⟨c, h1, h2⟩ := h
  exact ⟨c, h1, h2.symm⟩
theorem wl_set {γ : GT} {ρ : Nat → Nat} {σ : List AC} {k : Nat} {c : AC} : (wl γ ρ σ).set k (ρ k, conc γ ρ c) = wl γ ρ (σ.set k c) := by
  apply List.ext_getElem?
  intro i
  simp only [wl, List.getElem?_set, List.getElem?_mapIdx, List.length_mapIdx]
  by_cases h : k = i
  · subst h
    by_cases hk : k < σ.length
    · simp [hk]
    · simp [hk]
  · simp [h]
theorem wl_push {γ : GT} {ρ ρ' : Nat → Nat} {σ : List AC} {c : AC} (hok : okS σ) (he : ∀ k, k < σ.length → ρ' k = ρ k) : wl γ ρ' (σ ++ [c]) = wl γ ρ σ ++ [(ρ' σ.length, conc γ ρ' c)] := by
  apply List.ext_getElem?
  intro i
  by_cases h : i < σ.length
  · rw [List.getElem?_append_left (by simpa [wl] using h)]
    obtain ⟨x, hx⟩ : ∃ x, σ[i]? = some x := ⟨_, List.getElem?_eq_getElem h⟩
    rw [wl_get hx, wl_get (c := x) (by rw [List.getElem?_append_left h]; exact hx), he i h, conc_ext (hok i x hx) he]
  · rw [List.getElem?_append_right (by simpa [wl] using h)]
    have hl : (wl γ ρ σ).length = σ.length := by simp [wl]
    rw [hl]
    by_cases h2 : i = σ.length
    · subst h2
      simp [wl, List.getElem?_mapIdx]
    · have h3 : 1 ≤ i - σ.length := by omega
      simp only [wl, List.getElem?_mapIdx]
      rw [List.getElem?_eq_none (by simp; omega), List.getElem?_eq_none (by simp; omega)]
      rfl
theorem okS_set {σ : List AC} {k : Nat} {c : AC} (h : okS σ) (hc : okc σ.length c) : okS (σ.set k c) := by
  intro i x hx
  rw [List.length_set]
  rw [List.getElem?_set] at hx
  by_cases hk : k = i
  · rw [if_pos hk] at hx
    split at hx
    · cases hx; exact hc
    · cases hx
  · rw [if_neg hk] at hx
    exact h i x hx
theorem okc_mono {n n' : Nat} {c : AC} (h : okc n c) (hn : n ≤ n') : okc n' c := fun j => okv_mono (h j) hn
theorem okS_push {σ : List AC} {c : AC} (h : okS σ) (hc : okc (σ.length + 1) c) : okS (σ ++ [c]) := by
  intro i x hx
  rw [List.length_append, List.length_singleton]
  by_cases hi : i < σ.length
  · rw [List.getElem?_append_left hi] at hx
    exact okc_mono (h i x hx) (by omega)
  · rw [List.getElem?_append_right (by omega)] at hx
    have : i - σ.length < 1 := (List.getElem?_eq_some_iff.mp hx).1
    rw [show i - σ.length = 0 by omega] at hx
    cases hx
    exact hc
theorem okc_up {n κ N k : Nat} {f : Nat → Int} {z : Int} (h : okc n (κ, N, f)) (hz : okv n (et κ k, z)) : okc n (κ, N, up f k z) := by
  intro j
  show okv n (et κ j, if j = k then z else f j)
  by_cases hj : j = k
  · subst hj; rw [if_pos rfl]; exact hz
  · rw [if_neg hj]; exact h j
theorem cv_cat (γ : GT) (ρ : Nat → Nat) (v : AV) : (cv γ ρ v).category = if v.1 = 1 then 2 else 1 := by
  obtain ⟨t, z⟩ := v
  match t with
  | 0 => rfl
  | 1 => rfl
  | 2 =>
    show (if z < 0 then Value.null else .ref (ρ z.toNat)).category = 1
    split <;> rfl
  | _ + 3 => rfl
theorem Zc.moved {γ : GT} {u U : State} {H : Heap} (hW : u.WarmedH U.vm) (h : Zc γ u H) : Zc γ U H := by
  obtain ⟨h1, h2, h3, h4, h5, h6, h7, h8⟩ := h
  exact ⟨h1.moved hW.alike, h2, h3.moved hW.alike, h4.moved hW.alike, h5.moved hW.alike, fun i hi => (h6 i hi).warm hW, h7.moved hW.alike, h8.imp (fun q => q.moved hW.alike) (fun q => q.moved hW.alike)⟩
theorem Zc.same {γ : GT} {u U : State} {H : Heap} (hv : U.vm = u.vm) (h : Zc γ u H) : Zc γ U H := by
  obtain ⟨h1, h2, h3, h4, h5, h6, h7, h8⟩ := h
  have ha : u.vm.Alike U.vm := by rw [hv]; exact Vm.Alike.refl _
  exact ⟨h1.moved ha, h2, h3.moved ha, h4.moved ha, h5.moved ha, fun i hi => (h6 i hi).same hv, h7.moved ha, h8.imp (fun q => q.moved ha) (fun q => q.moved ha)⟩
theorem Zc.kept {γ : GT} {U : State} {H H1 : Heap} (hs : g_b γ ≤ H.size) (h : Zc γ U H) (hq : ∀ a : Nat, a < H.size → ¬ g_A γ a → H1[a]? = H[a]?) : Zc γ U H1 := by
  obtain ⟨h1, h2, h3, h4, h5, h6, h7, h8⟩ := h
  exact ⟨h1.kept (hq _ (Nat.lt_of_lt_of_le h2 hs) (Nat.not_le.mpr h2)), h2, h3.kept hq, h4.kept hq, h5.kept hq, h6, h7.kept hq, h8.imp (fun q => q.kept hq) (fun q => q.kept hq)⟩
