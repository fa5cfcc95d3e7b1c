section
variable {γ : GT} {Y : MT} {d mc ms : Nat} {Post : Option AV → List AC → Prop} {pc : Nat} {lv : List (Nat × AV)} {st : List AV} {σ0 : List AC} {m : Nat}
theorem p_get {l : List AC} {a j : Nat} (hm : σ0.length = m) (ha : a = m + j) : (σ0 ++ l)[a]? = l[j]? := by
  subst hm; subst ha
  rw [List.getElem?_append_right (Nat.le_add_right _ _), Nat.add_sub_cancel_left]
theorem p_set {l : List AC} {a j : Nat} {c : AC} (hm : σ0.length = m) (ha : a = m + j) : (σ0 ++ l).set a c = σ0 ++ l.set j c := by
  subst hm; subst ha
  rw [List.set_append_right _ _ (Nat.le_add_right _ _), Nat.add_sub_cancel_left]
theorem p_len {l : List AC} {a j : Nat} (hm : σ0.length = m) (hl : l.length = j) (ha : a = m + j) : (σ0 ++ l).length = a := by
  rw [List.length_append, hm, hl, ha]
theorem p_new {κ N idx mc1 ms1 a j : Nat} {l l' : List AC} (hd : decode Y.2.1 pc = .ok (.new idx, 3)) (hw : NewW Y.1.cls κ N idx) (hm : σ0.length = m) (hl : l.length = j) (ha : a = m + j) (hl' : l ++ [(κ, N, dfl κ)] = l') (h1 : 1 + mc1 = mc) (h2 : N + ms1 = ms) (kk : Aj γ Y d mc1 ms1 Post (pc + 3) lv (vA a :: st) (σ0 ++ l')) : Aj γ Y d mc ms Post pc lv st (σ0 ++ l) := by
  refine a_new hd hw h1 h2 ?_
  rw [p_len hm hl ha, List.append_assoc, hl']; exact kk
theorem p_anew {κ N idx mc1 ms1 a j : Nat} {z : Int} {Cn : String} {l l' : List AC} (hd : decode Y.2.1 pc = .ok (.anewarray idx, 3)) (hκ : 15 ≤ κ ∧ Cn ∈ [RX1, RX2, RX4, RX6] ∧ ∀ γ : GT, (tysL γ)[κ - 10]? = some (g_dA γ κ, .object Cn)) (hw : Cond.classLink Y.1.cls idx Cn ∈ lw_tbl) (hz : z = (N : Int)) (hN : N ≤ 60000000) (hm : σ0.length = m) (hl : l.length = j) (ha : a = m + j) (hl' : l ++ [(κ, N, dfl κ)] = l') (h1 : 1 + mc1 = mc) (h2 : N + ms1 = ms) (kk : Aj γ Y d mc1 ms1 Post (pc + 3) lv (vA a :: st) (σ0 ++ l')) : Aj γ Y d mc ms Post pc lv (vI z :: st) (σ0 ++ l) := by
  refine a_anewarray hd hκ hw hz hN h1 h2 ?_
  rw [p_len hm hl ha, List.append_assoc, hl']; exact kk
theorem p_arrI {N mc1 ms1 a j : Nat} {z : Int} {l l' : List AC} (hd : decode Y.2.1 pc = .ok (.newarray .int, 2)) (hw : Cond.arrayClass .int ∈ lw_tbl) (hz : z = (N : Int)) (hN : N ≤ 60000000) (hm : σ0.length = m) (hl : l.length = j) (ha : a = m + j) (hl' : l ++ [(12, N, dfl 12)] = l') (h1 : 1 + mc1 = mc) (h2 : N + ms1 = ms) (kk : Aj γ Y d mc1 ms1 Post (pc + 2) lv (vA a :: st) (σ0 ++ l')) : Aj γ Y d mc ms Post pc lv (vI z :: st) (σ0 ++ l) := by
  refine a_newarrayI hd hw hz hN h1 h2 ?_
  rw [p_len hm hl ha, List.append_assoc, hl']; exact kk
theorem p_arrB {N mc1 ms1 a j : Nat} {z : Int} {l l' : List AC} (hd : decode Y.2.1 pc = .ok (.newarray .byte, 2)) (hw : Cond.arrayClass .byte ∈ lw_tbl) (hz : z = (N : Int)) (hN : N ≤ 60000000) (hm : σ0.length = m) (hl : l.length = j) (ha : a = m + j) (hl' : l ++ [(10, N, dfl 10)] = l') (h1 : 1 + mc1 = mc) (h2 : N + ms1 = ms) (kk : Aj γ Y d mc1 ms1 Post (pc + 2) lv (vA a :: st) (σ0 ++ l')) : Aj γ Y d mc ms Post pc lv (vI z :: st) (σ0 ++ l) := by
  refine a_newarrayB hd hw hz hN h1 h2 ?_
  rw [p_len hm hl ha, List.append_assoc, hl']; exact kk
theorem p_arrC {N mc1 ms1 a j : Nat} {z : Int} {l l' : List AC} (hd : decode Y.2.1 pc = .ok (.newarray .char, 2)) (hw : Cond.arrayClass .char ∈ lw_tbl) (hz : z = (N : Int)) (hN : N ≤ 60000000) (hm : σ0.length = m) (hl : l.length = j) (ha : a = m + j) (hl' : l ++ [(11, N, dfl 11)] = l') (h1 : 1 + mc1 = mc) (h2 : N + ms1 = ms) (kk : Aj γ Y d mc1 ms1 Post (pc + 2) lv (vA a :: st) (σ0 ++ l')) : Aj γ Y d mc ms Post pc lv (vI z :: st) (σ0 ++ l) := by
  refine a_newarrayC hd hw hz hN h1 h2 ?_
  rw [p_len hm hl ha, List.append_assoc, hl']; exact kk
theorem p_arrZ {N mc1 ms1 a j : Nat} {z : Int} {l l' : List AC} (hd : decode Y.2.1 pc = .ok (.newarray .boolean, 2)) (hw : Cond.arrayClass .boolean ∈ lw_tbl) (hz : z = (N : Int)) (hN : N ≤ 60000000) (hm : σ0.length = m) (hl : l.length = j) (ha : a = m + j) (hl' : l ++ [(14, N, dfl 14)] = l') (h1 : 1 + mc1 = mc) (h2 : N + ms1 = ms) (kk : Aj γ Y d mc1 ms1 Post (pc + 2) lv (vA a :: st) (σ0 ++ l')) : Aj γ Y d mc ms Post pc lv (vI z :: st) (σ0 ++ l) := by
  refine a_newarrayZ hd hw hz hN h1 h2 ?_
  rw [p_len hm hl ha, List.append_assoc, hl']; exact kk
theorem p_arrJ {N mc1 ms1 a j : Nat} {z : Int} {l l' : List AC} (hd : decode Y.2.1 pc = .ok (.newarray .long, 2)) (hw : Cond.arrayClass .long ∈ lw_tbl) (hz : z = (N : Int)) (hN : N ≤ 60000000) (hm : σ0.length = m) (hl : l.length = j) (ha : a = m + j) (hl' : l ++ [(13, N, dfl 13)] = l') (h1 : 1 + mc1 = mc) (h2 : N + ms1 = ms) (kk : Aj γ Y d mc1 ms1 Post (pc + 2) lv (vA a :: st) (σ0 ++ l')) : Aj γ Y d mc ms Post pc lv (vI z :: st) (σ0 ++ l) := by
  refine a_newarrayJ hd hw hz hN h1 h2 ?_
  rw [p_len hm hl ha, List.append_assoc, hl']; exact kk
theorem p_put {a j κ k n idx : Nat} {f : Nat → Int} {v : AV} {ty : FieldType} {fin : Bool} {l l' : List AC} (hd : decode Y.2.1 pc = .ok (.putfield idx, 3)) (hw : PutW Y.1.cls κ k idx ty fin) (hfin : fin = true → Y.1.name = "<init>") (hm : σ0.length = m) (ha : a = m + j) (hj : l[j]? = some (κ, n, f)) (hk : k < n) (hv : v.1 = et κ k) (hfit : fitT ty v) (hl' : l.set j (κ, n, up f k v.2) = l') (kk : Aj γ Y d mc ms Post (pc + 3) lv st (σ0 ++ l')) : Aj γ Y d mc ms Post pc lv (v :: vA a :: st) (σ0 ++ l) := by
  refine a_put hd hw hfin ((p_get hm ha).trans hj) hk hv hfit ?_
  rw [p_set hm ha, hl']; exact kk
theorem p_getf {a j κ k n idx : Nat} {f : Nat → Int} {v : AV} {l : List AC} (hd : decode Y.2.1 pc = .ok (.getfield idx, 3)) (hw : FieldW Y.1.cls κ k idx) (hm : σ0.length = m) (ha : a = m + j) (hj : l[j]? = some (κ, n, f)) (hk : k < n) (hv : (et κ k, f k) = v) (kk : Aj γ Y d mc ms Post (pc + 3) lv (v :: st) (σ0 ++ l)) : Aj γ Y d mc ms Post pc lv (vA a :: st) (σ0 ++ l) :=
  a_get hd hw ((p_get hm ha).trans hj) hk hv kk
theorem p_aast {a b j j' κ n κ' n' : Nat} {f f' : Nat → Int} {i : Int} {l l' : List AC} (k : Nat) (hd : decode Y.2.1 pc = .ok (.aastore, 1)) (hm : σ0.length = m) (ha : a = m + j) (hb : b = m + j') (hj : l[j]? = some (κ, n, f)) (hj' : l[j']? = some (κ', n', f')) (hκ : 15 ≤ κ ∧ κ' < 10 ∧ ∃ r : vw_C, vwCl[κ']? = some r ∧ ∀ γ : GT, (tysL γ)[κ - 10]? = some (g_dA γ κ, .object r.1)) (hi : i = (k : Int)) (hk : k < n) (hl' : l.set j (κ, n, up f k (b : Int)) = l') (kk : Aj γ Y d mc ms Post (pc + 1) lv st (σ0 ++ l')) : Aj γ Y d mc ms Post pc lv (vA b :: vI i :: vA a :: st) (σ0 ++ l) := by
  refine a_aastore k hd ((p_get hm ha).trans hj) ((p_get hm hb).trans hj') hκ hi hk ?_
  rw [p_set hm ha, hl']; exact kk
theorem p_iast {a j n : Nat} {f : Nat → Int} {i z : Int} {l l' : List AC} (k : Nat) (hd : decode Y.2.1 pc = .ok (.iastore, 1)) (hm : σ0.length = m) (ha : a = m + j) (hj : l[j]? = some (12, n, f)) (hi : i = (k : Int)) (hk : k < n) (hl' : l.set j (12, n, up f k z) = l') (kk : Aj γ Y d mc ms Post (pc + 1) lv st (σ0 ++ l')) : Aj γ Y d mc ms Post pc lv (vI z :: vI i :: vA a :: st) (σ0 ++ l) := by
  refine a_iastore k hd ((p_get hm ha).trans hj) hi hk ?_
  rw [p_set hm ha, hl']; exact kk
theorem p_cast {a j n : Nat} {f : Nat → Int} {i z : Int} {l l' : List AC} (k : Nat) (hd : decode Y.2.1 pc = .ok (.castore, 1)) (hm : σ0.length = m) (ha : a = m + j) (hj : l[j]? = some (11, n, f)) (hi : i = (k : Int)) (hk : k < n) (hn : vp_nar .char (Int32.ofInt z) = Int32.ofInt z) (hzi : inI z) (hl' : l.set j (11, n, up f k z) = l') (kk : Aj γ Y d mc ms Post (pc + 1) lv st (σ0 ++ l')) : Aj γ Y d mc ms Post pc lv (vI z :: vI i :: vA a :: st) (σ0 ++ l) := by
  refine a_castore k hd ((p_get hm ha).trans hj) hi hk hn hzi ?_
  rw [p_set hm ha, hl']; exact kk
theorem p_init {Y' : MT} {d' mc' ms' mc1 ms1 idx a j κ N : Nat} {blk : List AC} (as : List AV) {stk : List AV} {l l0 l' : List AC} (hd : decode Y.2.1 pc = .ok (.invokespecial idx, 3)) (hw : MtW Y' as.length ∧ Cond.instanceMethod Y'.1 ∈ lw_tbl ∧ Y'.1.name = "<init>" ∧ Y'.2.2.2 = none) (hl : Cond.methodLink Y.1.cls idx Y'.1 ∈ lw_tbl ∨ ∃ host, Cond.methodLinkNest Y.1.cls idx Y'.1 host ∈ lw_tbl) (hm : σ0.length = m) (h0 : l0.length = j) (ha : a = m + j) (hs : stk = as.reverse ++ vA a :: st) (hst : stw st ≤ 8) (hd' : d' + 1 ≤ d) (h1 : mc' + mc1 = mc) (h2 : ms' + ms1 = ms) (hl0 : l = l0 ++ [(κ, N, dfl κ)]) (hl' : l0 ++ blk = l') (kk : Aj γ Y d mc1 ms1 Post (pc + 3) lv st (σ0 ++ l')) (hc : ∀ (σ1 : List AC) (Q : Option AV → List AC → Prop), σ1.length = a → Q none (σ1 ++ blk) → Cj γ Y' d' mc' ms' (vA a :: as) (σ1 ++ [(κ, N, dfl κ)]) Q) : Aj γ Y d mc ms Post pc lv stk (σ0 ++ l) := by
  subst hl0
  rw [← List.append_assoc]
  refine a_callI as hd hw hl hs hst hd' h1 h2 (hc (σ0 ++ l0) _ (p_len hm h0 ha) ?_)
  show Aj γ Y d mc1 ms1 Post (pc + 3) lv st ((σ0 ++ l0) ++ blk)
  rw [List.append_assoc, hl']; exact kk
end
