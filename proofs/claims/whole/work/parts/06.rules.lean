theorem cv_A (γ : GT) (ρ : Nat → Nat) (a : Nat) : cv γ ρ (vA a) = .ref (ρ a) := by
  show (if (a : Int) < 0 then Value.null else .ref (ρ (a : Int).toNat)) = _
  rw [if_neg (by omega), Int.toNat_natCast]
theorem conc_o {γ : GT} {ρ : Nat → Nat} {κ n : Nat} {f : Nat → Int} (h : κ < 10) : conc γ ρ (κ, n, f) = .inr (κ, (List.range n).map fun j => cv γ ρ (et κ j, f j)) := by
  unfold conc
  rw [if_pos h]
theorem conc_up {γ : GT} {ρ : Nat → Nat} {κ n k : Nat} {f : Nat → Int} {v : AV} (h : κ < 10) (hv : v.1 = et κ k) : conc γ ρ (κ, n, up f k v.2) = .inr (κ, ((List.range n).map fun j => cv γ ρ (et κ j, f j)).set k (cv γ ρ v)) := by
  rw [conc_o h]
  congr 2
  apply List.ext_getElem?
  intro i
  rw [List.getElem?_set]
  by_cases hi : k = i
  · subst hi
    by_cases hk : k < n
    · simp [hk, up, ← hv]
    · simp [hk]
  · simp only [hi, if_false, List.getElem?_map]
    by_cases hk : i < n
    · simp [hk, up, Ne.symm hi]
    · simp [hk]
def FieldW (own : String) (κ k idx : Nat) : Prop := ∃ (Cn : String) (T : u_T) (N : Nat), vwCl[κ]? = some (Cn, T, N) ∧ κ < 10 ∧ k < N ∧ (∀ w ∈ u_ws Cn T N, w ∈ lw_tbl ∧ goodWord w = true) ∧ (T k).1 = Cn ∧ ((Cond.fieldLink own idx Cn (T k).2.1 (T k).2.2.1 ∈ lw_tbl) ∨ ∃ host, Cond.fieldLinkNest own idx Cn (T k).2.1 (T k).2.2.1 host ∈ lw_tbl)
/-- what may stand in a field of a type -/
def fitT (ty : FieldType) (v : AV) : Prop := ∀ (γ : GT) (ρ : Nat → Nat), narrow ty (cv γ ρ v) = cv γ ρ v ∧ fits ty (cv γ ρ v) = true
theorem fit_int (z : Int) : fitT .int (vI z) := fun _ _ => ⟨rfl, rfl⟩
theorem fit_long (z : Int) : fitT .long (vL z) := fun _ _ => ⟨rfl, rfl⟩
theorem fit_bool {z : Int} (h : z = 0 ∨ z = 1) : fitT .boolean (vI z) := by
  intro γ ρ
  rcases h with rfl | rfl
  · exact ⟨nar_b (Or.inl rfl), by show fits .boolean (.int (Int32.ofInt 0)) = true; decide⟩
  · exact ⟨nar_b (Or.inr rfl), by show fits .boolean (.int (Int32.ofInt 1)) = true; decide⟩
theorem fit_obj {n : String} {v : AV} (h : 2 ≤ v.1) : fitT (.object n) v := by
  intro γ ρ
  rcases cv_ref (γ := γ) (ρ := ρ) h with e | ⟨a, e⟩ <;> rw [e] <;> exact ⟨rfl, rfl⟩
theorem fit_arr {t : FieldType} {v : AV} (h : 2 ≤ v.1) : fitT (.array t) v := by
  intro γ ρ
  rcases cv_ref (γ := γ) (ρ := ρ) h with e | ⟨a, e⟩ <;> rw [e] <;> exact ⟨rfl, rfl⟩
def PutW (own : String) (κ k idx : Nat) (ty : FieldType) (fin : Bool) : Prop := ∃ (Cn : String) (T : u_T) (N : Nat) (ty0 : Nat → FieldType), vwCl[κ]? = some (Cn, T, N) ∧ κ < 10 ∧ k < N ∧ (∀ w ∈ u_ws Cn T N, w ∈ lw_tbl ∧ goodWord w = true) ∧ (T k).1 = Cn ∧ (∀ k, k < N → parseFieldDescriptor (T k).2.2.1 = some (ty0 k)) ∧ (∀ a, a < N → ∀ b, b < N → a ≠ b → (T a).2.1 ≠ (T b).2.1) ∧ parseFieldDescriptor (T k).2.2.1 = some ty ∧ (T k).2.2.2 = fin ∧ (fin = true → Cn = own) ∧ ((Cond.fieldLink own idx Cn (T k).2.1 (T k).2.2.1 ∈ lw_tbl) ∨ (fin = false ∧ ∃ host, Cond.fieldLinkNest own idx Cn (T k).2.1 (T k).2.2.1 host ∈ lw_tbl))
section AR3
variable {γ : GT} {Y : MT} {d mc ms pc : Nat} {Post : Option AV → List AC → Prop} {lv : List (Nat × AV)} {st : List AV} {σ : List AC}
theorem Fx.wd {p : Program} {R : Room} {s : State} {m : MethodId} {args : Array Value} {meth : Method} {c : Code} {cells slots : Nat} (F : Fx γ Y d mc ms p R s m args meth c cells slots) {w : Cond} (h : w ∈ lw_tbl) (hg : goodWord w = true) : w.before args s = true := F.2.2.2.2.2.2.2.1 _ (gtb_in h hg)
theorem Fx.ks {p : Program} {R : Room} {s : State} {m : MethodId} {args : Array Value} {meth : Method} {c : Code} {cells slots : Nat} (F : Fx γ Y d mc ms p R s m args meth c cells slots) : Ks γ s := F.2.2.2.2.2.2.2.2.2.2.2.2.2
theorem Fx.own {p : Program} {R : Room} {s : State} {m : MethodId} {args : Array Value} {meth : Method} {c : Code} {cells slots : Nat} (F : Fx γ Y d mc ms p R s m args meth c cells slots) : s.vm.findClass Y.1.cls = some m.cls := F.2.2.2.2.2.1
theorem Fx.bs {p : Program} {R : Room} {s : State} {m : MethodId} {args : Array Value} {meth : Method} {c : Code} {cells slots : Nat} (F : Fx γ Y d mc ms p R s m args meth c cells slots) : g_b γ ≤ s.heap.size := F.2.2.2.2.2.2.2.2.2.2.2.2.1
theorem Fx.room {p : Program} {R : Room} {s : State} {m : MethodId} {args : Array Value} {meth : Method} {c : Code} {cells slots : Nat} (F : Fx γ Y d mc ms p R s m args meth c cells slots) : cells + mc ≤ R.cells ∧ slots + ms ≤ R.slots := ⟨F.2.2.2.2.2.2.2.2.2.2.1, F.2.2.2.2.2.2.2.2.2.2.2.1⟩
theorem Fx.fr {p : Program} {R : Room} {s : State} {m : MethodId} {args : Array Value} {meth : Method} {c : Code} {cells slots : Nat} (F : Fx γ Y d mc ms p R s m args meth c cells slots) : d ≤ R.frames ∧ 64 * d ≤ R.locals := ⟨F.2.2.2.2.2.2.2.2.1, F.2.2.2.2.2.2.2.2.2.1⟩
theorem Fx.ml {p : Program} {R : Room} {s : State} {m : MethodId} {args : Array Value} {meth : Method} {c : Code} {cells slots : Nat} (F : Fx γ Y d mc ms p R s m args meth c cells slots) : c.maxLocals = Y.2.2.1 := F.2.2.2.2.1
theorem Fx.use {p : Program} {R : Room} {s : State} {m : MethodId} {args : Array Value} {meth : Method} {c : Code} {cells slots k n mc' ms' : Nat} (F : Fx γ Y d mc ms p R s m args meth c cells slots) (h1 : k + mc' = mc) (h2 : n + ms' = ms) : Fx γ Y d mc' ms' p R s m args meth c (cells + k) (slots + n) := by
  obtain ⟨a1, a2, a3, a4, a5, a6, a7, a8, a9, b1, b2, b3, b4, b5⟩ := F
  exact ⟨a1, a2, a3, a4, a5, a6, a7, a8, a9, b1, by omega, by omega, b4, b5⟩
/-- a store in a cell that is there -/
theorem Dy.set {nL n0 a : Nat} {ρ0 ρ : Nat → Nat} {s : State} {H H1 : Heap} {locs locs1 : List Loc} {ls : Array Slot} {st' : List AV} {c : AC} (h : Dy γ nL n0 ρ0 ρ lv st σ s H locs ls) (h' : (∀ v ∈ st, okv σ.length v) → ∀ v ∈ st', okv σ.length v) (hc : okc σ.length c) (hP : va_P (g_D γ) vwCl ((wl γ ρ σ).set a (ρ a, conc γ ρ c)) H1) (hD : va_D (g_A γ) ((wl γ ρ σ).set a (ρ a, conc γ ρ c))) (hS : va_S (g_A γ) s.heap H1 locs1) : Dy γ nL n0 ρ0 ρ lv st' (σ.set a c) s H1 locs1 ls := by
  obtain ⟨h1, h2, h3, h4, h5, h6, h7⟩ := h
  rw [wl_set] at hP hD
  refine ⟨hS, ⟨hP, hD, okS_set h2.2.2 hc⟩, ?_, h4, ?_, ?_, h7⟩ <;> rw [List.length_set]
  · exact h3
  · exact h' h5
  · exact h6
theorem a_get {a κ k n idx : Nat} {f : Nat → Int} {v : AV} (hd : decode Y.2.1 pc = .ok (.getfield idx, 3)) (hw : FieldW Y.1.cls κ k idx) (ha : σ[a]? = some (κ, n, f)) (hk : k < n) (hv : (et κ k, f k) = v) (kk : Aj γ Y d mc ms Post (pc + 3) lv (v :: st) σ) : Aj γ Y d mc ms Post pc lv (vA a :: st) σ := by
  intro p e R s m args below meth c H locs cells slots n0 ρ0 ρ ls F D
  subst hv
  obtain ⟨Cn, T, N, e1, e2, e3, e4, e5, e6⟩ := hw
  have hok : okv σ.length (et κ k, f k) := D.2.1.2.2 a _ ha k
  have h := kk p e R s m args below meth c H locs cells slots n0 ρ0 ρ ls F (D.stk fun q => ok_cons hok (ok_tl q))
  rw [List.map_cons, cv_A]
  have he : (wl γ ρ σ)[a]? = some (ρ a, .inr (κ, (List.range n).map fun j => cv γ ρ (et κ j, f j))) := by rw [wl_get ha, conc_o e2]
  have hv : ((List.range n).map fun j => cv γ ρ (et κ j, f j))[k]? = some (cv γ ρ (et κ k, f k)) := by simp [hk]
  rcases e6 with e6 | ⟨host, e6⟩
  · exact va_get (D := g_D γ) F.1 F.2.1 (fun w hw => F.wd (e4 w hw).1 (e4 w hw).2) (fun _ h => h) F.own F.ks.1 D.2.1.1 a he e1 k e3 (F.wd e6 rfl) (fun x hx => by rw [← e5]; exact hx) hv hd h
  · exact va_getN (D := g_D γ) F.1 F.2.1 (fun w hw => F.wd (e4 w hw).1 (e4 w hw).2) (fun _ h => h) F.own F.ks.1 D.2.1.1 a he e1 k e3 (va_Nw.use rfl (F.ks.2.1 _ e6 rfl)) (fun x hx => by rw [← e5]; exact hx) hv hd h
theorem a_put {a κ k n idx : Nat} {f : Nat → Int} {v : AV} {ty : FieldType} {fin : Bool} (hd : decode Y.2.1 pc = .ok (.putfield idx, 3)) (hw : PutW Y.1.cls κ k idx ty fin) (hfin : fin = true → Y.1.name = "<init>") (ha : σ[a]? = some (κ, n, f)) (hk : k < n) (hv : v.1 = et κ k) (hfit : fitT ty v) (kk : Aj γ Y d mc ms Post (pc + 3) lv st (σ.set a (κ, n, up f k v.2))) : Aj γ Y d mc ms Post pc lv (v :: vA a :: st) σ := by
  intro p e R s m args below meth c H locs cells slots n0 ρ0 ρ ls F D
  obtain ⟨Cn, T, N, ty0, e1, e2, e3, e4, e5, e6, e7, e8, e9, e10, e11⟩ := hw
  have hok : okc σ.length (κ, n, up f k v.2) := okc_up (D.2.1.2.2 a _ ha) (by rw [← hv]; exact ok_hd D.ok)
  have he : (wl γ ρ σ)[a]? = some (ρ a, .inr (κ, (List.range n).map fun j => cv γ ρ (et κ j, f j))) := by rw [wl_get ha, conc_o e2]
  rw [List.map_cons, List.map_cons, cv_A]
  have hl : k < ((List.range n).map fun j => cv γ ρ (et κ j, f j)).length := by simp [hk]
  have go : ∀ (H1 : Heap) (locs1 : List Loc), va_P (g_D γ) vwCl ((wl γ ρ σ).set a (ρ a, .inr (κ, ((List.range n).map fun j => cv γ ρ (et κ j, f j)).set k (cv γ ρ v)))) H1 → va_D (g_A γ) ((wl γ ρ σ).set a (ρ a, .inr (κ, ((List.range n).map fun j => cv γ ρ (et κ j, f j)).set k (cv γ ρ v)))) → va_S (g_A γ) s.heap H1 locs1 → W p (g_l γ) e R s m args below meth c H1 locs1 cells slots (MQ below (QC γ ρ0 n0 Post) args s (cells + mc) (slots + ms) (g_A γ)) (F0 m (pc + 3) ls (st.map (cv γ ρ))) := by
    intro H1 locs1 hP hD hS
    rw [← conc_up e2 hv] at hP hD
    exact kk p e R s m args below meth c H1 locs1 cells slots n0 ρ0 ρ ls F (D.set (fun q => ok_tl (ok_tl q)) hok hP hD hS)
  cases fin with
  | true =>
    rcases e11 with e11 | ⟨e11, -⟩
    · exact va_putF (D := g_D γ) F.1 F.2.1 (fun w hw => F.wd (e4 w hw).1 (e4 w hw).2) (fun _ h => h) ty0 e6 e7 F.own F.ks.1 D.2.1.1 D.2.1.2.1 D.1 a he e1 k e3 (F.wd e11 rfl) (fun x hx => by rw [← e5]; exact hx) e9 (by rw [F.2.2.2.2.2.2.1]; exact hfin rfl) (by rw [e5]; exact e10 rfl) e8 (hfit γ ρ).1 (hfit γ ρ).2 hl hd go
    · cases e11
  | false =>
    rcases e11 with e11 | ⟨-, host, e11⟩
    · exact va_put (D := g_D γ) F.1 F.2.1 (fun w hw => F.wd (e4 w hw).1 (e4 w hw).2) (fun _ h => h) ty0 e6 e7 F.own F.ks.1 D.2.1.1 D.2.1.2.1 D.1 a he e1 k e3 (F.wd e11 rfl) (fun x hx => by rw [← e5]; exact hx) e9 e8 (hfit γ ρ).1 (hfit γ ρ).2 hl hd go
    · exact va_putN (D := g_D γ) F.1 F.2.1 (fun w hw => F.wd (e4 w hw).1 (e4 w hw).2) (fun _ h => h) ty0 e6 e7 F.own F.ks.1 D.2.1.1 D.2.1.2.1 D.1 a he e1 k e3 (va_Nw.use rfl (F.ks.2.1 _ e11 rfl)) (fun x hx => by rw [← e5]; exact hx) e9 e8 (hfit γ ρ).1 (hfit γ ρ).2 hl hd go
theorem a_iaload {a n : Nat} {f : Nat → Int} {i z : Int} (k : Nat) (hd : decode Y.2.1 pc = .ok (.iaload, 1)) (ha : σ[a]? = some (12, n, f)) (hi : i = (k : Int)) (hk : k < n) (hz : f k = z) (kk : inI z → Aj γ Y d mc ms Post (pc + 1) lv (vI z :: st) σ) : Aj γ Y d mc ms Post pc lv (vI i :: vA a :: st) σ := by
  intro p e R s m args below meth c H locs cells slots n0 ρ0 ρ ls F D
  have hok : inI z := by rw [← hz]; exact D.2.1.2.2 a _ ha k
  obtain ⟨h1, h2⟩ := i32_in (ok_hd D.ok : inI i) hi hk
  have h := kk hok p e R s m args below meth c H locs cells slots n0 ρ0 ρ ls F (D.stk fun q => ok_cons (v := vI z) hok (ok_tl (ok_tl q)))
  rw [List.map_cons, List.map_cons, cv_A]
  refine va_iald (D := g_D γ) F.1 F.2.1 F.ks.1 D.2.1.1 a 2 (wl_get ha) rfl h1 hd ?_
  rw [h2]
  show W p (g_l γ) e R s m args below meth c H locs cells slots _ (F0 m (pc + 1) ls (.int (Int32.ofInt (f k)) :: st.map (cv γ ρ)))
  rw [hz]
  exact h
theorem a_caload {a n : Nat} {f : Nat → Int} {i z : Int} (k : Nat) (hd : decode Y.2.1 pc = .ok (.caload, 1)) (ha : σ[a]? = some (11, n, f)) (hi : i = (k : Int)) (hk : k < n) (hz : f k = z) (kk : inI z → Aj γ Y d mc ms Post (pc + 1) lv (vI z :: st) σ) : Aj γ Y d mc ms Post pc lv (vI i :: vA a :: st) σ := by
  intro p e R s m args below meth c H locs cells slots n0 ρ0 ρ ls F D
  have hok : inI z := by rw [← hz]; exact D.2.1.2.2 a _ ha k
  obtain ⟨h1, h2⟩ := i32_in (ok_hd D.ok : inI i) hi hk
  have h := kk hok p e R s m args below meth c H locs cells slots n0 ρ0 ρ ls F (D.stk fun q => ok_cons (v := vI z) hok (ok_tl (ok_tl q)))
  rw [List.map_cons, List.map_cons, cv_A]
  refine va_cald (D := g_D γ) F.1 F.2.1 F.ks.1 D.2.1.1 a 1 (wl_get ha) rfl h1 hd ?_
  rw [h2]
  show W p (g_l γ) e R s m args below meth c H locs cells slots _ (F0 m (pc + 1) ls (.int (Int32.ofInt (f k)) :: st.map (cv γ ρ)))
  rw [hz]
  exact h
theorem a_baload {a n : Nat} {f : Nat → Int} {i z : Int} (k : Nat) (hd : decode Y.2.1 pc = .ok (.baload, 1)) (ha : σ[a]? = some (10, n, f)) (hi : i = (k : Int)) (hk : k < n) (hz : f k = z) (kk : inI z → Aj γ Y d mc ms Post (pc + 1) lv (vI z :: st) σ) : Aj γ Y d mc ms Post pc lv (vI i :: vA a :: st) σ := by
  intro p e R s m args below meth c H locs cells slots n0 ρ0 ρ ls F D
  have hok : inI z := by rw [← hz]; exact D.2.1.2.2 a _ ha k
  obtain ⟨h1, h2⟩ := i32_in (ok_hd D.ok : inI i) hi hk
  have h := kk hok p e R s m args below meth c H locs cells slots n0 ρ0 ρ ls F (D.stk fun q => ok_cons (v := vI z) hok (ok_tl (ok_tl q)))
  rw [List.map_cons, List.map_cons, cv_A]
  refine va_bald (D := g_D γ) F.1 F.2.1 F.ks.1 D.2.1.1 a 0 (wl_get ha) rfl h1 hd ?_
  rw [h2]
  show W p (g_l γ) e R s m args below meth c H locs cells slots _ (F0 m (pc + 1) ls (.int (Int32.ofInt (f k)) :: st.map (cv γ ρ)))
  rw [hz]
  exact h
theorem a_zaload {a n : Nat} {f : Nat → Int} {i z : Int} (k : Nat) (hd : decode Y.2.1 pc = .ok (.baload, 1)) (ha : σ[a]? = some (14, n, f)) (hi : i = (k : Int)) (hk : k < n) (hz : f k = z) (kk : inI z → Aj γ Y d mc ms Post (pc + 1) lv (vI z :: st) σ) : Aj γ Y d mc ms Post pc lv (vI i :: vA a :: st) σ := by
  intro p e R s m args below meth c H locs cells slots n0 ρ0 ρ ls F D
  have hok : inI z := by rw [← hz]; exact D.2.1.2.2 a _ ha k
  obtain ⟨h1, h2⟩ := i32_in (ok_hd D.ok : inI i) hi hk
  have h := kk hok p e R s m args below meth c H locs cells slots n0 ρ0 ρ ls F (D.stk fun q => ok_cons (v := vI z) hok (ok_tl (ok_tl q)))
  rw [List.map_cons, List.map_cons, cv_A]
  refine va_zald (D := g_D γ) F.1 F.2.1 F.ks.1 D.2.1.1 a 4 (wl_get ha) rfl h1 hd ?_
  rw [h2]
  show W p (g_l γ) e R s m args below meth c H locs cells slots _ (F0 m (pc + 1) ls (.int (Int32.ofInt (f k)) :: st.map (cv γ ρ)))
  rw [hz]
  exact h
theorem a_laload {a n : Nat} {f : Nat → Int} {i z : Int} (k : Nat) (hd : decode Y.2.1 pc = .ok (.laload, 1)) (ha : σ[a]? = some (13, n, f)) (hi : i = (k : Int)) (hk : k < n) (hz : f k = z) (kk : inL z → Aj γ Y d mc ms Post (pc + 1) lv (vL z :: st) σ) : Aj γ Y d mc ms Post pc lv (vI i :: vA a :: st) σ := by
  intro p e R s m args below meth c H locs cells slots n0 ρ0 ρ ls F D
  have hok : inL z := by rw [← hz]; exact D.2.1.2.2 a _ ha k
  obtain ⟨h1, h2⟩ := i32_in (ok_hd D.ok : inI i) hi hk
  have h := kk hok p e R s m args below meth c H locs cells slots n0 ρ0 ρ ls F (D.stk fun q => ok_cons (v := vL z) hok (ok_tl (ok_tl q)))
  rw [List.map_cons, List.map_cons, cv_A]
  refine va_lald (D := g_D γ) F.1 F.2.1 F.ks.1 D.2.1.1 a 3 (wl_get ha) rfl h1 hd ?_
  rw [h2]
  show W p (g_l γ) e R s m args below meth c H locs cells slots _ (F0 m (pc + 1) ls (.long (Int64.ofInt (f k)) :: st.map (cv γ ρ)))
  rw [hz]
  exact h
theorem upd_of (f : Nat → Int) (k : Nat) (z : Int) : upd (fun j => Int32.ofInt (f j)) k (Int32.ofInt z) = fun j => Int32.ofInt (up f k z j) := by
  funext j
  unfold upd up
  by_cases h : j = k
  · simp [h]
  · simp [h]
theorem updL_of (f : Nat → Int) (k : Nat) (z : Int) : vp_updL (fun j => Int64.ofInt (f j)) k (Int64.ofInt z) = fun j => Int64.ofInt (up f k z j) := by
  funext j
  unfold vp_updL up
  by_cases h : j = k
  · simp [h]
  · simp [h]
theorem a_iastore {a n : Nat} {f : Nat → Int} {i z : Int} (k : Nat) (hd : decode Y.2.1 pc = .ok (.iastore, 1)) (ha : σ[a]? = some (12, n, f)) (hi : i = (k : Int)) (hk : k < n) (kk : Aj γ Y d mc ms Post (pc + 1) lv st (σ.set a (12, n, up f k z))) : Aj γ Y d mc ms Post pc lv (vI z :: vI i :: vA a :: st) σ := by
  intro p e R s m args below meth c H locs cells slots n0 ρ0 ρ ls F D
  obtain ⟨h1, h2⟩ := i32_in (ok_hd (ok_tl D.ok) : inI i) hi hk
  rw [List.map_cons, List.map_cons, List.map_cons, cv_A]
  refine va_iast (D := g_D γ) F.1 F.2.1 F.ks.1 D.2.1.1 D.2.1.2.1 D.1 a 2 (wl_get ha) rfl h1 hd fun H1 locs1 hP hD hS => ?_
  rw [h2, upd_of] at hP hD
  exact kk p e R s m args below meth c H1 locs1 cells slots n0 ρ0 ρ ls F (D.set (c := (12, n, up f k z)) (fun q => ok_tl (ok_tl (ok_tl q))) (okc_up (D.2.1.2.2 a _ ha) (ok_hd D.ok : inI z)) hP hD hS)
theorem a_bastore {a n : Nat} {f : Nat → Int} {i x z : Int} (k : Nat) (hd : decode Y.2.1 pc = .ok (.bastore, 1)) (ha : σ[a]? = some (10, n, f)) (hi : i = (k : Int)) (hk : k < n) (hn : vp_nar .byte (Int32.ofInt x) = Int32.ofInt z) (hzi : inI z) (kk : Aj γ Y d mc ms Post (pc + 1) lv st (σ.set a (10, n, up f k z))) : Aj γ Y d mc ms Post pc lv (vI x :: vI i :: vA a :: st) σ := by
  intro p e R s m args below meth c H locs cells slots n0 ρ0 ρ ls F D
  obtain ⟨h1, h2⟩ := i32_in (ok_hd (ok_tl D.ok) : inI i) hi hk
  rw [List.map_cons, List.map_cons, List.map_cons, cv_A]
  refine va_bast (D := g_D γ) F.1 F.2.1 F.ks.1 D.2.1.1 D.2.1.2.1 D.1 a 0 (wl_get ha) rfl h1 hd fun H1 locs1 hP hD hS => ?_
  rw [h2, hn, upd_of] at hP hD
  exact kk p e R s m args below meth c H1 locs1 cells slots n0 ρ0 ρ ls F (D.set (c := (10, n, up f k z)) (fun q => ok_tl (ok_tl (ok_tl q))) (okc_up (D.2.1.2.2 a _ ha) hzi) hP hD hS)
theorem a_zastore {a n : Nat} {f : Nat → Int} {i x z : Int} (k : Nat) (hd : decode Y.2.1 pc = .ok (.bastore, 1)) (ha : σ[a]? = some (14, n, f)) (hi : i = (k : Int)) (hk : k < n) (hn : vp_nar .boolean (Int32.ofInt x) = Int32.ofInt z) (hzi : inI z) (kk : Aj γ Y d mc ms Post (pc + 1) lv st (σ.set a (14, n, up f k z))) : Aj γ Y d mc ms Post pc lv (vI x :: vI i :: vA a :: st) σ := by
  intro p e R s m args below meth c H locs cells slots n0 ρ0 ρ ls F D
  obtain ⟨h1, h2⟩ := i32_in (ok_hd (ok_tl D.ok) : inI i) hi hk
  rw [List.map_cons, List.map_cons, List.map_cons, cv_A]
  refine va_zast (D := g_D γ) F.1 F.2.1 F.ks.1 D.2.1.1 D.2.1.2.1 D.1 a 4 (wl_get ha) rfl h1 hd fun H1 locs1 hP hD hS => ?_
  rw [h2, hn, upd_of] at hP hD
  exact kk p e R s m args below meth c H1 locs1 cells slots n0 ρ0 ρ ls F (D.set (c := (14, n, up f k z)) (fun q => ok_tl (ok_tl (ok_tl q))) (okc_up (D.2.1.2.2 a _ ha) hzi) hP hD hS)
theorem a_castore {a n : Nat} {f : Nat → Int} {i x z : Int} (k : Nat) (hd : decode Y.2.1 pc = .ok (.castore, 1)) (ha : σ[a]? = some (11, n, f)) (hi : i = (k : Int)) (hk : k < n) (hn : vp_nar .char (Int32.ofInt x) = Int32.ofInt z) (hzi : inI z) (kk : Aj γ Y d mc ms Post (pc + 1) lv st (σ.set a (11, n, up f k z))) : Aj γ Y d mc ms Post pc lv (vI x :: vI i :: vA a :: st) σ := by
  intro p e R s m args below meth c H locs cells slots n0 ρ0 ρ ls F D
  obtain ⟨h1, h2⟩ := i32_in (ok_hd (ok_tl D.ok) : inI i) hi hk
  rw [List.map_cons, List.map_cons, List.map_cons, cv_A]
  refine va_cast (D := g_D γ) F.1 F.2.1 F.ks.1 D.2.1.1 D.2.1.2.1 D.1 a 1 (wl_get ha) rfl h1 hd fun H1 locs1 hP hD hS => ?_
  rw [h2, hn, upd_of] at hP hD
  exact kk p e R s m args below meth c H1 locs1 cells slots n0 ρ0 ρ ls F (D.set (c := (11, n, up f k z)) (fun q => ok_tl (ok_tl (ok_tl q))) (okc_up (D.2.1.2.2 a _ ha) hzi) hP hD hS)
theorem a_lastore {a n : Nat} {f : Nat → Int} {i z : Int} (k : Nat) (hd : decode Y.2.1 pc = .ok (.lastore, 1)) (ha : σ[a]? = some (13, n, f)) (hi : i = (k : Int)) (hk : k < n) (kk : Aj γ Y d mc ms Post (pc + 1) lv st (σ.set a (13, n, up f k z))) : Aj γ Y d mc ms Post pc lv (vL z :: vI i :: vA a :: st) σ := by
  intro p e R s m args below meth c H locs cells slots n0 ρ0 ρ ls F D
  obtain ⟨h1, h2⟩ := i32_in (ok_hd (ok_tl D.ok) : inI i) hi hk
  rw [List.map_cons, List.map_cons, List.map_cons, cv_A]
  refine va_last (D := g_D γ) F.1 F.2.1 F.ks.1 D.2.1.1 D.2.1.2.1 D.1 a 3 (wl_get ha) rfl h1 hd fun H1 locs1 hP hD hS => ?_
  rw [h2, updL_of] at hP hD
  exact kk p e R s m args below meth c H1 locs1 cells slots n0 ρ0 ρ ls F (D.set (c := (13, n, up f k z)) (fun q => ok_tl (ok_tl (ok_tl q))) (okc_up (D.2.1.2.2 a _ ha) (ok_hd D.ok : inL z)) hP hD hS)
theorem rf_of (γ : GT) (ρ : Nat → Nat) (z : Int) : va_rf (if z < 0 then none else some (ρ z.toNat)) = cv γ ρ (2, z) := by
  show _ = if z < 0 then Value.null else .ref (ρ z.toNat)
  split <;> rfl
theorem conc_q {ρ : Nat → Nat} {κ n : Nat} {f : Nat → Int} (h : 15 ≤ κ) : conc γ ρ (κ, n, f) = .inl (g_dA γ κ, n, .inr (.inr (.inr (.inr fun j => if f j < 0 then none else some (ρ (f j).toNat))))) := by
  unfold conc carr
  simp only
  rw [if_neg (by omega), if_neg (by omega), if_neg (by omega)]
theorem et_q {κ j : Nat} (h : 15 ≤ κ) : et κ j = 2 := by
  unfold et
  rw [if_neg (by omega), if_neg (by omega), if_neg (by omega)]
theorem a_aaload {a κ n : Nat} {f : Nat → Int} {i z : Int} {Cn : String} (k : Nat) (hd : decode Y.2.1 pc = .ok (.aaload, 1)) (ha : σ[a]? = some (κ, n, f)) (hκ : 15 ≤ κ ∧ ∀ γ : GT, (tysL γ)[κ - 10]? = some (g_dA γ κ, .object Cn)) (hi : i = (k : Int)) (hk : k < n) (hz : f k = z) (kk : Aj γ Y d mc ms Post (pc + 1) lv ((2, z) :: st) σ) : Aj γ Y d mc ms Post pc lv (vI i :: vA a :: st) σ := by
  intro p e R s m args below meth c H locs cells slots n0 ρ0 ρ ls F D
  subst hz
  have hok : okv σ.length (2, f k) := by
    have := D.2.1.2.2 a _ ha k
    rwa [et_q hκ.1] at this
  obtain ⟨h1, h2⟩ := i32_in (ok_hd D.ok : inI i) hi hk
  have h := kk p e R s m args below meth c H locs cells slots n0 ρ0 ρ ls F (D.stk fun q => ok_cons hok (ok_tl (ok_tl q)))
  rw [List.map_cons, List.map_cons, cv_A]
  refine va_aldq (D := g_D γ) F.1 F.2.1 F.ks.1 D.2.1.1 a (κ - 10) (by rw [wl_get ha, conc_q hκ.1]) (hκ.2 γ) h1 hd ?_
  rw [h2, rf_of γ ρ (f k)]
  exact h
theorem a_aastore {a κ n b κ' n' : Nat} {f f' : Nat → Int} {i : Int} (k : Nat) (hd : decode Y.2.1 pc = .ok (.aastore, 1)) (ha : σ[a]? = some (κ, n, f)) (hb : σ[b]? = some (κ', n', f')) (hκ : 15 ≤ κ ∧ κ' < 10 ∧ ∃ r : vw_C, vwCl[κ']? = some r ∧ ∀ γ : GT, (tysL γ)[κ - 10]? = some (g_dA γ κ, .object r.1)) (hi : i = (k : Int)) (hk : k < n) (kk : Aj γ Y d mc ms Post (pc + 1) lv st (σ.set a (κ, n, up f k (b : Int)))) : Aj γ Y d mc ms Post pc lv (vA b :: vI i :: vA a :: st) σ := by
  intro p e R s m args below meth c H locs cells slots n0 ρ0 ρ ls F D
  obtain ⟨e1, e2, r, e3, e4⟩ := hκ
  obtain ⟨h1, h2⟩ := i32_in (ok_hd (ok_tl D.ok) : inI i) hi hk
  have he : (wl γ ρ σ)[b]? = some (ρ b, .inr (κ', (List.range n').map fun j => cv γ ρ (et κ' j, f' j))) := by rw [wl_get hb, conc_o e2]
  rw [List.map_cons, List.map_cons, List.map_cons, cv_A, cv_A]
  refine va_astq (D := g_D γ) F.1 F.2.1 F.ks.1 D.2.1.1 D.2.1.2.1 D.1 a (κ - 10) b κ' (by rw [wl_get ha, conc_q e1]) (e4 γ) he e3 h1 hd fun H1 locs1 hP hD hS => ?_
  have hq : va_up (fun j => if f j < 0 then none else some (ρ (f j).toNat)) k (some (ρ b)) = fun j => if up f k (b : Int) j < 0 then none else some (ρ (up f k (b : Int) j).toNat) := by
    funext j
    unfold va_up up
    by_cases hj : j = k
    · simp only [hj, if_true, Int.toNat_natCast]; rw [if_neg (by omega)]
    · simp only [hj, if_false]
  rw [h2, hq, ← conc_q e1] at hP hD
  exact kk p e R s m args below meth c H1 locs1 cells slots n0 ρ0 ρ ls F (D.set (c := (κ, n, up f k (b : Int))) (fun q => ok_tl (ok_tl (ok_tl q))) (okc_up (D.2.1.2.2 a _ ha) (by rw [et_q e1]; exact ok_hd D.ok)) hP hD hS)
end AR3
