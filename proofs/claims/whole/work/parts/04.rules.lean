theorem i32_w (z : Int) : Int32.ofInt (w32 z) = Int32.ofInt z := by
  apply Int32.toInt_inj.mp
  rw [Int32.toInt_ofInt, Int32.toInt_ofInt]
  exact Int.bmod_bmod ..
theorem i64_w (z : Int) : Int64.ofInt (w64 z) = Int64.ofInt z := by
  apply Int64.toInt_inj.mp
  rw [Int64.toInt_ofInt, Int64.toInt_ofInt]
  exact Int.bmod_bmod ..
theorem w32_in (z : Int) : inI (w32 z) := by
  unfold inI w32
  have h1 := Int.le_bmod (x := z) (m := 4294967296) (by decide)
  have h2 := Int.bmod_lt (x := z) (m := 4294967296) (by decide)
  omega
theorem w64_in (z : Int) : inL (w64 z) := by
  unfold inL w64
  have h1 := Int.le_bmod (x := z) (m := 18446744073709551616) (by decide)
  have h2 := Int.bmod_lt (x := z) (m := 18446744073709551616) (by decide)
  omega
theorem w32_id {z : Int} (h : inI z) : w32 z = z := by
  unfold inI at h
  unfold w32
  exact Int.bmod_eq_of_le (by omega) (by omega)
theorem w64_id {z : Int} (h : inL z) : w64 z = z := by
  unfold inL at h
  unfold w64
  exact Int.bmod_eq_of_le (by omega) (by omega)
theorem i32_t {z : Int} (h : inI z) : (Int32.ofInt z).toInt = z := by
  rw [Int32.toInt_ofInt]
  exact w32_id h
theorem i64_t {z : Int} (h : inL z) : (Int64.ofInt z).toInt = z := by
  rw [Int64.toInt_ofInt]
  exact w64_id h
theorem i32_rng (x : Int32) : inI x.toInt := ⟨by have := x.le_toInt; omega, by have := x.toInt_lt; omega⟩
theorem i32_of (x : Int32) : Int32.ofInt x.toInt = x := Int32.toInt_inj.mp (i32_t (i32_rng x))
theorem i64_rng (x : Int64) : inL x.toInt := ⟨by have := x.le_toInt; omega, by have := x.toInt_lt; omega⟩
theorem i64_of (x : Int64) : Int64.ofInt x.toInt = x := Int64.toInt_inj.mp (i64_t (i64_rng x))
theorem i32_eq {a b : Int} (ha : inI a) (hb : inI b) : Int32.ofInt a = Int32.ofInt b ↔ a = b := by
  constructor
  · intro h
    rw [← i32_t ha, ← i32_t hb, h]
  · intro h; rw [h]
theorem i32_lt {a b : Int} (ha : inI a) (hb : inI b) : Int32.ofInt a < Int32.ofInt b ↔ a < b := by
  rw [Int32.lt_iff_toInt_lt, i32_t ha, i32_t hb]
theorem i32_le {a b : Int} (ha : inI a) (hb : inI b) : Int32.ofInt a ≤ Int32.ofInt b ↔ a ≤ b := by
  rw [Int32.le_iff_toInt_le, i32_t ha, i32_t hb]
theorem i32_in {i : Int} {k n : Nat} (hi : inI i) (hk : i = (k : Int)) (hn : k < n) : vp_in (Int32.ofInt i) n ∧ (Int32.ofInt i).toNatClampNeg = k := by
  have h1 : (Int32.ofInt i).toInt = (k : Int) := by rw [i32_t hi, hk]
  refine ⟨vp_in_iff.mpr ⟨by omega, by omega⟩, ?_⟩
  show (Int32.ofInt i).toInt.toNat = k
  omega
section AR
variable {γ : GT} {Y : MT} {d mc ms pc : Nat} {Post : Option AV → List AC → Prop} {lv : List (Nat × AV)} {st : List AV} {σ : List AC}
theorem Dy.stk {nL n0 : Nat} {ρ0 ρ : Nat → Nat} {s : State} {H : Heap} {locs : List Loc} {ls : Array Slot} {st' : List AV} (h : Dy γ nL n0 ρ0 ρ lv st σ s H locs ls) (h' : (∀ v ∈ st, okv σ.length v) → ∀ v ∈ st', okv σ.length v) : Dy γ nL n0 ρ0 ρ lv st' σ s H locs ls := by
  obtain ⟨h1, h2, h3, h4, h5, h6, h7⟩ := h
  exact ⟨h1, h2, h3, h4, h' h5, h6, h7⟩
theorem Dy.ok {nL n0 : Nat} {ρ0 ρ : Nat → Nat} {s : State} {H : Heap} {locs : List Loc} {ls : Array Slot} (h : Dy γ nL n0 ρ0 ρ lv st σ s H locs ls) : ∀ v ∈ st, okv σ.length v := h.2.2.2.2.1
theorem ok_hd {n : Nat} {v : AV} {l : List AV} (h : ∀ x ∈ v :: l, okv n x) : okv n v := h v List.mem_cons_self
theorem ok_tl {n : Nat} {v : AV} {l : List AV} (h : ∀ x ∈ v :: l, okv n x) : ∀ x ∈ l, okv n x := fun x hx => h x (List.mem_cons_of_mem _ hx)
theorem ok_cons {n : Nat} {v : AV} {l : List AV} (hv : okv n v) (h : ∀ x ∈ l, okv n x) : ∀ x ∈ v :: l, okv n x := List.forall_mem_cons.mpr ⟨hv, h⟩
/-- what is known anyhow of the store, the stack and the locals -/
theorem a_ok (h : okS σ → (∀ v ∈ st, okv σ.length v) → (∀ q ∈ lv, okv σ.length q.2) → Aj γ Y d mc ms Post pc lv st σ) : Aj γ Y d mc ms Post pc lv st σ := by
  intro p e R s m args below meth c H locs cells slots n0 ρ0 ρ ls F D
  exact h D.2.1.2.2 D.2.2.2.2.1 D.2.2.2.2.2.1 p e R s m args below meth c H locs cells slots n0 ρ0 ρ ls F D
theorem a_iconst {n : Int} (hd : decode Y.2.1 pc = .ok (.iconst n, 1)) (hn : inI n) (k : Aj γ Y d mc ms Post (pc + 1) lv (vI n :: st) σ) : Aj γ Y d mc ms Post pc lv st σ := by
  intro p e R s m args below meth c H locs cells slots n0 ρ0 ρ ls F D
  exact lv_iconst F.1 F.2.1 hd rfl (k p e R s m args below meth c H locs cells slots n0 ρ0 ρ ls F (D.stk (ok_cons hn)))
theorem a_bipush {n : Int} (hd : decode Y.2.1 pc = .ok (.bipush n, 2)) (hn : (Int8.ofInt n).toInt32 = Int32.ofInt n ∧ inI n) (k : Aj γ Y d mc ms Post (pc + 2) lv (vI n :: st) σ) : Aj γ Y d mc ms Post pc lv st σ := by
  intro p e R s m args below meth c H locs cells slots n0 ρ0 ρ ls F D
  exact lv_bipush F.1 F.2.1 hd hn.1 (k p e R s m args below meth c H locs cells slots n0 ρ0 ρ ls F (D.stk (ok_cons hn.2)))
theorem a_sipush {n : Int} (hd : decode Y.2.1 pc = .ok (.sipush n, 3)) (hn : (Int16.ofInt n).toInt32 = Int32.ofInt n ∧ inI n) (k : Aj γ Y d mc ms Post (pc + 3) lv (vI n :: st) σ) : Aj γ Y d mc ms Post pc lv st σ := by
  intro p e R s m args below meth c H locs cells slots n0 ρ0 ρ ls F D
  exact lv_sipush F.1 F.2.1 hd hn.1 (k p e R s m args below meth c H locs cells slots n0 ρ0 ρ ls F (D.stk (ok_cons hn.2)))
theorem a_lconst {n : Fin 2} {z : Int} (hd : decode Y.2.1 pc = .ok (.lconst n, 1)) (hn : Int64.ofNat (n : Nat) = Int64.ofInt z ∧ inL z) (k : Aj γ Y d mc ms Post (pc + 1) lv (vL z :: st) σ) : Aj γ Y d mc ms Post pc lv st σ := by
  intro p e R s m args below meth c H locs cells slots n0 ρ0 ρ ls F D
  exact lv_lconst F.1 F.2.1 hd hn.1 (k p e R s m args below meth c H locs cells slots n0 ρ0 ρ ls F (D.stk (ok_cons hn.2)))
theorem a_null (hd : decode Y.2.1 pc = .ok (.aconst_null, 1)) (k : Aj γ Y d mc ms Post (pc + 1) lv (vN :: st) σ) : Aj γ Y d mc ms Post pc lv st σ := by
  intro p e R s m args below meth c H locs cells slots n0 ρ0 ρ ls F D
  exact lv_null F.1 F.2.1 hd (k p e R s m args below meth c H locs cells slots n0 ρ0 ρ ls F (D.stk (ok_cons (show (-1 : Int) < _ by omega))))
theorem gtb_in {w : Cond} (h1 : w ∈ lw_tbl) (h2 : goodWord w = true) : w ∈ gtb := List.mem_filter.mpr ⟨h1, h2⟩
theorem a_ldc {idx : Nat} {x : Int32} {z : Int} (hd : decode Y.2.1 pc = .ok (.ldc idx, 2)) (hw : Cond.constant Y.1.cls idx x ∈ lw_tbl) (hz : x = Int32.ofInt z ∧ inI z) (k : Aj γ Y d mc ms Post (pc + 2) lv (vI z :: st) σ) : Aj γ Y d mc ms Post pc lv st σ := by
  intro p e R s m args below meth c H locs cells slots n0 ρ0 ρ ls F D
  obtain ⟨rfl, hz⟩ := hz
  exact lv_ldc F.1 F.2.1 F.2.2.2.2.2.1 (F.2.2.2.2.2.2.2.1 _ (gtb_in hw rfl)) hd (k p e R s m args below meth c H locs cells slots n0 ρ0 ρ ls F (D.stk (ok_cons hz)))
theorem a_ldcw {idx : Nat} {x : Int32} {z : Int} (hd : decode Y.2.1 pc = .ok (.ldc_w idx, 3)) (hw : Cond.constant Y.1.cls idx x ∈ lw_tbl) (hz : x = Int32.ofInt z ∧ inI z) (k : Aj γ Y d mc ms Post (pc + 3) lv (vI z :: st) σ) : Aj γ Y d mc ms Post pc lv st σ := by
  intro p e R s m args below meth c H locs cells slots n0 ρ0 ρ ls F D
  obtain ⟨rfl, hz⟩ := hz
  exact lv_ldcw F.1 F.2.1 F.2.2.2.2.2.1 (F.2.2.2.2.2.2.2.1 _ (gtb_in hw rfl)) hd (k p e R s m args below meth c H locs cells slots n0 ρ0 ρ ls F (D.stk (ok_cons hz)))
theorem a_ldc2 {idx : Nat} {x : Int64} {z : Int} (hd : decode Y.2.1 pc = .ok (.ldc2_w idx, 3)) (hw : Cond.constantLong Y.1.cls idx x ∈ lw_tbl) (hz : x = Int64.ofInt z ∧ inL z) (k : Aj γ Y d mc ms Post (pc + 3) lv (vL z :: st) σ) : Aj γ Y d mc ms Post pc lv st σ := by
  intro p e R s m args below meth c H locs cells slots n0 ρ0 ρ ls F D
  obtain ⟨rfl, hz⟩ := hz
  exact lv_ldc2 F.1 F.2.1 F.2.2.2.2.2.1 (F.2.2.2.2.2.2.2.1 _ (gtb_in hw rfl)) hd (k p e R s m args below meth c H locs cells slots n0 ρ0 ρ ls F (D.stk (ok_cons hz)))
theorem a_ldcS {i idx : Nat} (hd : decode Y.2.1 pc = .ok (.ldc idx, 2)) (hi : i < 11 ∧ sidx.getD i 0 = idx) (hy : Y.1.cls = RX3) (k : Aj γ Y d mc ms Post (pc + 2) lv (vK (2 + 2 * i) :: st) σ) : Aj γ Y d mc ms Post pc lv st σ := by
  intro p e R s m args below meth c H locs cells slots n0 ρ0 ρ ls F D
  obtain ⟨hi, rfl⟩ := hi
  have hZ := F.2.2.2.2.2.2.2.2.2.2.2.2.2.2.2.2.2.2.2.2.2.1 i hi
  exact va_ldcS F.1 F.2.1 (by rw [← hy]; exact F.2.2.2.2.2.1) hZ hd (k p e R s m args below meth c H locs cells slots n0 ρ0 ρ ls F (D.stk (ok_cons trivial)))
/-- a local's value -/
theorem lvc_at {ρ : Nat → Nat} {nL : Nat} {ls : Array Slot} {i : Nat} {v : AV} (h : lv_has ls nL (lvc γ ρ lv)) (j : Nat) (hj : lv[j]? = some (i, v)) : ls[i]? = some (.val (cv γ ρ v)) := by
  refine lv_at h j ?_
  simp [lvc, hj]
theorem ok_lv {n j i : Nat} {v : AV} (h : ∀ q ∈ lv, okv n q.2) (hj : lv[j]? = some (i, v)) : okv n v := h _ (List.mem_of_getElem? hj)
theorem a_iload_n {k : Fin 4} {j i : Nat} {z : Int} (hd : decode Y.2.1 pc = .ok (.iload_n k, 1)) (hi : (k : Nat) = i) (hj : lv[j]? = some (i, vI z)) (kk : Aj γ Y d mc ms Post (pc + 1) lv (vI z :: st) σ) : Aj γ Y d mc ms Post pc lv st σ := by
  intro p e R s m args below meth c H locs cells slots n0 ρ0 ρ ls F D
  exact lv_iload_n F.1 F.2.1 hd hi (lvc_at D.2.2.2.2.2.2 j hj) (kk p e R s m args below meth c H locs cells slots n0 ρ0 ρ ls F (D.stk (ok_cons (ok_lv D.2.2.2.2.2.1 hj))))
theorem a_iload {j i : Nat} {z : Int} (hd : decode Y.2.1 pc = .ok (.iload i, 2)) (hj : lv[j]? = some (i, vI z)) (kk : Aj γ Y d mc ms Post (pc + 2) lv (vI z :: st) σ) : Aj γ Y d mc ms Post pc lv st σ := by
  intro p e R s m args below meth c H locs cells slots n0 ρ0 ρ ls F D
  exact lv_iload F.1 F.2.1 hd (lvc_at D.2.2.2.2.2.2 j hj) (kk p e R s m args below meth c H locs cells slots n0 ρ0 ρ ls F (D.stk (ok_cons (ok_lv D.2.2.2.2.2.1 hj))))
theorem a_lload_n {k : Fin 4} {j i : Nat} {z : Int} (hd : decode Y.2.1 pc = .ok (.lload_n k, 1)) (hi : (k : Nat) = i) (hj : lv[j]? = some (i, vL z)) (kk : Aj γ Y d mc ms Post (pc + 1) lv (vL z :: st) σ) : Aj γ Y d mc ms Post pc lv st σ := by
  intro p e R s m args below meth c H locs cells slots n0 ρ0 ρ ls F D
  exact lv_lload_n F.1 F.2.1 hd hi (lvc_at D.2.2.2.2.2.2 j hj) (kk p e R s m args below meth c H locs cells slots n0 ρ0 ρ ls F (D.stk (ok_cons (ok_lv D.2.2.2.2.2.1 hj))))
theorem a_lload {j i : Nat} {z : Int} (hd : decode Y.2.1 pc = .ok (.lload i, 2)) (hj : lv[j]? = some (i, vL z)) (kk : Aj γ Y d mc ms Post (pc + 2) lv (vL z :: st) σ) : Aj γ Y d mc ms Post pc lv st σ := by
  intro p e R s m args below meth c H locs cells slots n0 ρ0 ρ ls F D
  exact lv_lload F.1 F.2.1 hd (lvc_at D.2.2.2.2.2.2 j hj) (kk p e R s m args below meth c H locs cells slots n0 ρ0 ρ ls F (D.stk (ok_cons (ok_lv D.2.2.2.2.2.1 hj))))
/-- a reference is an address or null -/
theorem cv_ref {γ : GT} {ρ : Nat → Nat} {v : AV} (h : 2 ≤ v.1) : cv γ ρ v = .null ∨ ∃ a, cv γ ρ v = .ref a := by
  obtain ⟨t, z⟩ := v
  match t, h with
  | 2, _ =>
    show (if z < 0 then Value.null else .ref (ρ z.toNat)) = .null ∨ ∃ a, (if z < 0 then Value.null else .ref (ρ z.toNat)) = .ref a
    split
    · exact Or.inl rfl
    · exact Or.inr ⟨_, rfl⟩
  | _ + 3, _ => exact Or.inr ⟨_, rfl⟩
theorem a_aload_n {k : Fin 4} {j i : Nat} {v : AV} (hd : decode Y.2.1 pc = .ok (.aload_n k, 1)) (hi : (k : Nat) = i) (hj : lv[j]? = some (i, v)) (hv : 2 ≤ v.1) (kk : Aj γ Y d mc ms Post (pc + 1) lv (v :: st) σ) : Aj γ Y d mc ms Post pc lv st σ := by
  intro p e R s m args below meth c H locs cells slots n0 ρ0 ρ ls F D
  have h1 := lvc_at D.2.2.2.2.2.2 j hj
  have h2 := kk p e R s m args below meth c H locs cells slots n0 ρ0 ρ ls F (D.stk (ok_cons (ok_lv D.2.2.2.2.2.1 hj)))
  rw [List.map_cons] at h2
  rcases cv_ref (γ := γ) (ρ := ρ) hv with h0 | ⟨a, h0⟩
  · rw [h0] at h1 h2
    exact lv_aload_nN F.1 F.2.1 hd hi h1 h2
  · rw [h0] at h1 h2
    exact lv_aload_n F.1 F.2.1 hd hi h1 h2
theorem a_aload {j i : Nat} {v : AV} (hd : decode Y.2.1 pc = .ok (.aload i, 2)) (hj : lv[j]? = some (i, v)) (hv : 2 ≤ v.1) (kk : Aj γ Y d mc ms Post (pc + 2) lv (v :: st) σ) : Aj γ Y d mc ms Post pc lv st σ := by
  intro p e R s m args below meth c H locs cells slots n0 ρ0 ρ ls F D
  have h1 := lvc_at D.2.2.2.2.2.2 j hj
  have h2 := kk p e R s m args below meth c H locs cells slots n0 ρ0 ρ ls F (D.stk (ok_cons (ok_lv D.2.2.2.2.2.1 hj)))
  rw [List.map_cons] at h2
  rcases cv_ref (γ := γ) (ρ := ρ) hv with h0 | ⟨a, h0⟩
  · rw [h0] at h1 h2
    exact lv_aloadN F.1 F.2.1 hd h1 h2
  · rw [h0] at h1 h2
    exact lv_aload F.1 F.2.1 hd h1 h2
/-- the locals behind a store at i -/
def lst (i : Nat) (v : AV) (lv : List (Nat × AV)) : List (Nat × AV) := (i, v) :: lv.filter (fun q => !(q.1 == i) && !(q.1 + 1 == i && q.2.1 == 1))
def lst2 (i : Nat) (v : AV) (lv : List (Nat × AV)) : List (Nat × AV) := (i, v) :: lv.filter (fun q => !(q.1 == i) && (!(q.1 == i + 1) && !(q.1 + 1 == i && q.2.1 == 1)))
theorem cv_c2 (γ : GT) (ρ : Nat → Nat) (v : AV) : ((cv γ ρ v).category == 2) = (v.1 == 1) := by
  rw [cv_cat]
  by_cases h : v.1 = 1
  · rw [if_pos h, h]; rfl
  · rw [if_neg h]
    have : (v.1 == 1) = false := by simpa using h
    rw [this]; rfl
theorem lvc_st (ρ : Nat → Nat) (i : Nat) (v : AV) : (i, cv γ ρ v) :: (lvc γ ρ lv).filter (fun q => !(q.1 == i) && !(q.1 + 1 == i && q.2.category == 2)) = lvc γ ρ (lst i v lv) := by
  unfold lvc lst
  rw [List.map_cons, List.filter_map]
  congr 2
  apply List.filter_congr
  intro q _
  simp only [Function.comp, cv_c2]
theorem lvc_st2 (ρ : Nat → Nat) (i : Nat) (v : AV) : (i, cv γ ρ v) :: (lvc γ ρ lv).filter (fun q => !(q.1 == i) && (!(q.1 == i + 1) && !(q.1 + 1 == i && q.2.category == 2))) = lvc γ ρ (lst2 i v lv) := by
  unfold lvc lst2
  rw [List.map_cons, List.filter_map]
  congr 2
  apply List.filter_congr
  intro q _
  simp only [Function.comp, cv_c2]
theorem Dy.sto {nL n0 : Nat} {ρ0 ρ : Nat → Nat} {s : State} {H : Heap} {locs : List Loc} {ls ls' : Array Slot} {i : Nat} {v : AV} (h : Dy γ nL n0 ρ0 ρ lv (v :: st) σ s H locs ls) (h' : lv_has ls' nL (lvc γ ρ (lst i v lv))) : Dy γ nL n0 ρ0 ρ (lst i v lv) st σ s H locs ls' := by
  obtain ⟨h1, h2, h3, h4, h5, h6, h7⟩ := h
  refine ⟨h1, h2, h3, h4, ok_tl h5, ?_, h'⟩
  intro q hq
  rcases List.mem_cons.mp hq with rfl | hq
  · exact ok_hd h5
  · exact h6 q (List.mem_filter.mp hq).1
theorem Dy.sto2 {nL n0 : Nat} {ρ0 ρ : Nat → Nat} {s : State} {H : Heap} {locs : List Loc} {ls ls' : Array Slot} {i : Nat} {v : AV} (h : Dy γ nL n0 ρ0 ρ lv (v :: st) σ s H locs ls) (h' : lv_has ls' nL (lvc γ ρ (lst2 i v lv))) : Dy γ nL n0 ρ0 ρ (lst2 i v lv) st σ s H locs ls' := by
  obtain ⟨h1, h2, h3, h4, h5, h6, h7⟩ := h
  refine ⟨h1, h2, h3, h4, ok_tl h5, ?_, h'⟩
  intro q hq
  rcases List.mem_cons.mp hq with rfl | hq
  · exact ok_hd h5
  · exact h6 q (List.mem_filter.mp hq).1
theorem a_istore_n {k : Fin 4} {i : Nat} {z : Int} {lv' : List (Nat × AV)} (hd : decode Y.2.1 pc = .ok (.istore_n k, 1)) (hi : (k : Nat) = i) (hn : i < Y.2.2.1) (hl : lst i (vI z) lv = lv') (kk : Aj γ Y d mc ms Post (pc + 1) lv' st σ) : Aj γ Y d mc ms Post pc lv (vI z :: st) σ := by
  subst hl
  intro p e R s m args below meth c H locs cells slots n0 ρ0 ρ ls F D
  exact lv_istore_n F.1 F.2.1 hd hi D.2.2.2.2.2.2 hn (lvc_st (γ := γ) ρ i (vI z)) fun ls' h => kk p e R s m args below meth c H locs cells slots n0 ρ0 ρ ls' F (D.sto h)
theorem a_istore {i : Nat} {z : Int} {lv' : List (Nat × AV)} (hd : decode Y.2.1 pc = .ok (.istore i, 2)) (hn : i < Y.2.2.1) (hl : lst i (vI z) lv = lv') (kk : Aj γ Y d mc ms Post (pc + 2) lv' st σ) : Aj γ Y d mc ms Post pc lv (vI z :: st) σ := by
  subst hl
  intro p e R s m args below meth c H locs cells slots n0 ρ0 ρ ls F D
  exact lv_istore F.1 F.2.1 hd D.2.2.2.2.2.2 hn (lvc_st (γ := γ) ρ i (vI z)) fun ls' h => kk p e R s m args below meth c H locs cells slots n0 ρ0 ρ ls' F (D.sto h)
theorem a_lstore_n {k : Fin 4} {i : Nat} {z : Int} {lv' : List (Nat × AV)} (hd : decode Y.2.1 pc = .ok (.lstore_n k, 1)) (hi : (k : Nat) = i) (hn : i + 1 < Y.2.2.1) (hl : lst2 i (vL z) lv = lv') (kk : Aj γ Y d mc ms Post (pc + 1) lv' st σ) : Aj γ Y d mc ms Post pc lv (vL z :: st) σ := by
  subst hl
  intro p e R s m args below meth c H locs cells slots n0 ρ0 ρ ls F D
  exact lv_lstore_n F.1 F.2.1 hd hi D.2.2.2.2.2.2 hn (lvc_st2 (γ := γ) ρ i (vL z)) fun ls' h => kk p e R s m args below meth c H locs cells slots n0 ρ0 ρ ls' F (D.sto2 h)
theorem a_lstore {i : Nat} {z : Int} {lv' : List (Nat × AV)} (hd : decode Y.2.1 pc = .ok (.lstore i, 2)) (hn : i + 1 < Y.2.2.1) (hl : lst2 i (vL z) lv = lv') (kk : Aj γ Y d mc ms Post (pc + 2) lv' st σ) : Aj γ Y d mc ms Post pc lv (vL z :: st) σ := by
  subst hl
  intro p e R s m args below meth c H locs cells slots n0 ρ0 ρ ls F D
  exact lv_lstore F.1 F.2.1 hd D.2.2.2.2.2.2 hn (lvc_st2 (γ := γ) ρ i (vL z)) fun ls' h => kk p e R s m args below meth c H locs cells slots n0 ρ0 ρ ls' F (D.sto2 h)
theorem a_astore_n {k : Fin 4} {i : Nat} {v : AV} {lv' : List (Nat × AV)} (hd : decode Y.2.1 pc = .ok (.astore_n k, 1)) (hi : (k : Nat) = i) (hn : i < Y.2.2.1) (hv : 2 ≤ v.1) (hl : lst i v lv = lv') (kk : Aj γ Y d mc ms Post (pc + 1) lv' st σ) : Aj γ Y d mc ms Post pc lv (v :: st) σ := by
  subst hl
  intro p e R s m args below meth c H locs cells slots n0 ρ0 ρ ls F D
  rw [List.map_cons]
  have hq := lvc_st (γ := γ) (lv := lv) ρ i v
  rcases cv_ref (γ := γ) (ρ := ρ) hv with h0 | ⟨a, h0⟩
  · rw [h0] at hq ⊢
    exact lv_astore_nN F.1 F.2.1 hd hi D.2.2.2.2.2.2 hn hq fun ls' h => kk p e R s m args below meth c H locs cells slots n0 ρ0 ρ ls' F (D.sto h)
  · rw [h0] at hq ⊢
    exact lv_astore_n F.1 F.2.1 hd hi D.2.2.2.2.2.2 hn hq fun ls' h => kk p e R s m args below meth c H locs cells slots n0 ρ0 ρ ls' F (D.sto h)
theorem a_astore {i : Nat} {v : AV} {lv' : List (Nat × AV)} (hd : decode Y.2.1 pc = .ok (.astore i, 2)) (hn : i < Y.2.2.1) (hv : 2 ≤ v.1) (hl : lst i v lv = lv') (kk : Aj γ Y d mc ms Post (pc + 2) lv' st σ) : Aj γ Y d mc ms Post pc lv (v :: st) σ := by
  subst hl
  intro p e R s m args below meth c H locs cells slots n0 ρ0 ρ ls F D
  rw [List.map_cons]
  have hq := lvc_st (γ := γ) (lv := lv) ρ i v
  rcases cv_ref (γ := γ) (ρ := ρ) hv with h0 | ⟨a, h0⟩
  · rw [h0] at hq ⊢
    exact lv_astoreN F.1 F.2.1 hd D.2.2.2.2.2.2 hn hq fun ls' h => kk p e R s m args below meth c H locs cells slots n0 ρ0 ρ ls' F (D.sto h)
  · rw [h0] at hq ⊢
    exact lv_astore F.1 F.2.1 hd D.2.2.2.2.2.2 hn hq fun ls' h => kk p e R s m args below meth c H locs cells slots n0 ρ0 ρ ls' F (D.sto h)
/-- the locals in another order, or fewer -/
theorem a_lv {lv' : List (Nat × AV)} (h : ∀ q ∈ lv', q ∈ lv) (k : Aj γ Y d mc ms Post pc lv' st σ) : Aj γ Y d mc ms Post pc lv st σ := by
  intro p e R s m args below meth c H locs cells slots n0 ρ0 ρ ls F D
  obtain ⟨h1, h2, h3, h4, h5, h6, h7⟩ := D
  refine k p e R s m args below meth c H locs cells slots n0 ρ0 ρ ls F ⟨h1, h2, h3, h4, h5, fun q hq => h6 q (h q hq), h7.1, h7.2.1, ?_⟩
  intro q hq
  obtain ⟨x, hx, rfl⟩ := List.mem_map.mp hq
  exact h7.2.2 _ (List.mem_map.mpr ⟨x, h x hx, rfl⟩)
theorem a_iinc {i j : Nat} {n z z' : Int} {lv' : List (Nat × AV)} (hd : decode Y.2.1 pc = .ok (.iinc i n, 3)) (hj : lv[j]? = some (i, vI z)) (hz : w32 (z + n) = z') (hn : i < Y.2.2.1) (hl : lst i (vI z') lv = lv') (kk : Aj γ Y d mc ms Post (pc + 3) lv' st σ) : Aj γ Y d mc ms Post pc lv st σ := by
  subst hl; subst hz
  intro p e R s m args below meth c H locs cells slots n0 ρ0 ρ ls F D
  refine lv_iinc (k := j) (x := Int32.ofInt z) (v := Int32.ofInt (w32 (z + n))) F.1 F.2.1 hd D.2.2.2.2.2.2 (by simp [lvc, hj, cv]) (by rw [i32_w, Int32.ofInt_add]) hn (lvc_st (γ := γ) ρ i (vI (w32 (z + n)))) fun ls' h => ?_
  exact kk p e R s m args below meth c H locs cells slots n0 ρ0 ρ ls' F ((D.stk (ok_cons (v := vI (w32 (z + n))) (w32_in (z + n)))).sto h)
end AR
