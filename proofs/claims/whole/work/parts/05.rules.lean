theorem i32_div {a b : Int} (ha : inI a) (hb : inI b) : Int32.ofInt a / Int32.ofInt b = Int32.ofInt (a.tdiv b) := by
  apply Int32.toInt_inj.mp
  rw [Int32.toInt_div, i32_t ha, i32_t hb, Int32.toInt_ofInt]
theorem i32_rem {a b : Int} (ha : inI a) (hb : inI b) : Int32.ofInt a - Int32.ofInt a / Int32.ofInt b * Int32.ofInt b = Int32.ofInt (a.tmod b) := by
  rw [i32_div ha hb, ← Int32.ofInt_mul, ← Int32.ofInt_sub, Int.tmod_def, Int.mul_comm]
theorem in_0 : inI 0 := ⟨by decide, by decide⟩
def and32 (a b : Int) : Int := (Int32.ofInt a &&& Int32.ofInt b).toInt
def shr32 (a b : Int) : Int := (Int32.ofInt a >>> (Int32.ofInt b &&& 31)).toInt
def ushr32 (a b : Int) : Int := ((Int32.ofInt a).toUInt32 >>> ((Int32.ofInt b).toUInt32 &&& Int32.toUInt32 31)).toInt32.toInt
def b8 (a : Int) : Int := (Int32.ofInt a).toInt8.toInt32.toInt
def s16 (a : Int) : Int := (Int32.ofInt a).toInt16.toInt32.toInt
def c16 (a : Int) : Int := ((Int32.ofInt a).toUInt32 % 65536).toInt32.toInt
theorem in_and (a b : Int) : inI (and32 a b) := i32_rng _
theorem in_shr (a b : Int) : inI (shr32 a b) := i32_rng _
theorem in_ushr (a b : Int) : inI (ushr32 a b) := i32_rng _
theorem in_b8 (a : Int) : inI (b8 a) := i32_rng _
theorem in_s16 (a : Int) : inI (s16 a) := i32_rng _
theorem in_c16 (a : Int) : inI (c16 a) := i32_rng _
theorem i32_l {a : Int} (ha : inI a) : (Int32.ofInt a).toInt64 = Int64.ofInt a := by
  apply Int64.toInt_inj.mp
  rw [Int32.toInt_toInt64, i32_t ha, i64_t ⟨by unfold inI at ha; omega, by unfold inI at ha; omega⟩]
section AR2
variable {γ : GT} {Y : MT} {d mc ms pc : Nat} {Post : Option AV → List AC → Prop} {lv : List (Nat × AV)} {st : List AV} {σ : List AC}
theorem a_iadd {a b z : Int} (hd : decode Y.2.1 pc = .ok (.iadd, 1)) (hz : w32 (a + b) = z) (k : Aj γ Y d mc ms Post (pc + 1) lv (vI z :: st) σ) : Aj γ Y d mc ms Post pc lv (vI b :: vI a :: st) σ := by
  intro p e R s m args below meth c H locs cells slots n0 ρ0 ρ ls F D
  have ib : inI b := ok_hd D.ok
  have ia : inI a := ok_hd (ok_tl D.ok)
  have h := k p e R s m args below meth c H locs cells slots n0 ρ0 ρ ls F (D.stk fun q => ok_cons (v := vI z) (by show inI z; rw [← hz]; exact w32_in _) (ok_tl (ok_tl q)))
  have hq : cv γ ρ (vI z) = .int (Int32.ofInt a + Int32.ofInt b) := congrArg Value.int (by rw [← hz, i32_w, Int32.ofInt_add])
  rw [List.map_cons, hq] at h
  exact lv_iadd F.1 F.2.1 hd h
theorem a_isub {a b z : Int} (hd : decode Y.2.1 pc = .ok (.isub, 1)) (hz : w32 (a - b) = z) (k : Aj γ Y d mc ms Post (pc + 1) lv (vI z :: st) σ) : Aj γ Y d mc ms Post pc lv (vI b :: vI a :: st) σ := by
  intro p e R s m args below meth c H locs cells slots n0 ρ0 ρ ls F D
  have ib : inI b := ok_hd D.ok
  have ia : inI a := ok_hd (ok_tl D.ok)
  have h := k p e R s m args below meth c H locs cells slots n0 ρ0 ρ ls F (D.stk fun q => ok_cons (v := vI z) (by show inI z; rw [← hz]; exact w32_in _) (ok_tl (ok_tl q)))
  have hq : cv γ ρ (vI z) = .int (Int32.ofInt a - Int32.ofInt b) := congrArg Value.int (by rw [← hz, i32_w, Int32.ofInt_sub])
  rw [List.map_cons, hq] at h
  exact lv_isub F.1 F.2.1 hd h
theorem a_imul {a b z : Int} (hd : decode Y.2.1 pc = .ok (.imul, 1)) (hz : w32 (a * b) = z) (k : Aj γ Y d mc ms Post (pc + 1) lv (vI z :: st) σ) : Aj γ Y d mc ms Post pc lv (vI b :: vI a :: st) σ := by
  intro p e R s m args below meth c H locs cells slots n0 ρ0 ρ ls F D
  have ib : inI b := ok_hd D.ok
  have ia : inI a := ok_hd (ok_tl D.ok)
  have h := k p e R s m args below meth c H locs cells slots n0 ρ0 ρ ls F (D.stk fun q => ok_cons (v := vI z) (by show inI z; rw [← hz]; exact w32_in _) (ok_tl (ok_tl q)))
  have hq : cv γ ρ (vI z) = .int (Int32.ofInt a * Int32.ofInt b) := congrArg Value.int (by rw [← hz, i32_w, Int32.ofInt_mul])
  rw [List.map_cons, hq] at h
  exact lv_imul F.1 F.2.1 hd h
theorem a_idiv {a b z : Int} (hd : decode Y.2.1 pc = .ok (.idiv, 1)) (hne : ¬ b = 0) (hz : w32 (a.tdiv b) = z) (k : Aj γ Y d mc ms Post (pc + 1) lv (vI z :: st) σ) : Aj γ Y d mc ms Post pc lv (vI b :: vI a :: st) σ := by
  intro p e R s m args below meth c H locs cells slots n0 ρ0 ρ ls F D
  have ib : inI b := ok_hd D.ok
  have ia : inI a := ok_hd (ok_tl D.ok)
  have h := k p e R s m args below meth c H locs cells slots n0 ρ0 ρ ls F (D.stk fun q => ok_cons (v := vI z) (by show inI z; rw [← hz]; exact w32_in _) (ok_tl (ok_tl q)))
  have hq : cv γ ρ (vI z) = .int (Int32.ofInt a / Int32.ofInt b) := congrArg Value.int (by rw [← hz, i32_w, i32_div ia ib])
  rw [List.map_cons, hq] at h
  exact lv_idiv F.1 F.2.1 hd (fun h => hne ((i32_eq ib in_0).mp h)) h
theorem a_irem {a b z : Int} (hd : decode Y.2.1 pc = .ok (.irem, 1)) (hne : ¬ b = 0) (hz : w32 (a.tmod b) = z) (k : Aj γ Y d mc ms Post (pc + 1) lv (vI z :: st) σ) : Aj γ Y d mc ms Post pc lv (vI b :: vI a :: st) σ := by
  intro p e R s m args below meth c H locs cells slots n0 ρ0 ρ ls F D
  have ib : inI b := ok_hd D.ok
  have ia : inI a := ok_hd (ok_tl D.ok)
  have h := k p e R s m args below meth c H locs cells slots n0 ρ0 ρ ls F (D.stk fun q => ok_cons (v := vI z) (by show inI z; rw [← hz]; exact w32_in _) (ok_tl (ok_tl q)))
  have hq : cv γ ρ (vI z) = .int (Int32.ofInt a - Int32.ofInt a / Int32.ofInt b * Int32.ofInt b) := congrArg Value.int (by rw [← hz, i32_w, i32_rem ia ib])
  rw [List.map_cons, hq] at h
  exact lv_irem F.1 F.2.1 hd (fun h => hne ((i32_eq ib in_0).mp h)) h
theorem a_iand {a b z : Int} (hd : decode Y.2.1 pc = .ok (.iand, 1)) (hz : and32 a b = z) (k : Aj γ Y d mc ms Post (pc + 1) lv (vI z :: st) σ) : Aj γ Y d mc ms Post pc lv (vI b :: vI a :: st) σ := by
  intro p e R s m args below meth c H locs cells slots n0 ρ0 ρ ls F D
  have ib : inI b := ok_hd D.ok
  have ia : inI a := ok_hd (ok_tl D.ok)
  have h := k p e R s m args below meth c H locs cells slots n0 ρ0 ρ ls F (D.stk fun q => ok_cons (v := vI z) (by show inI z; rw [← hz]; exact in_and a b) (ok_tl (ok_tl q)))
  have hq : cv γ ρ (vI z) = .int (Int32.ofInt a &&& Int32.ofInt b) := congrArg Value.int (by rw [← hz]; exact i32_of _)
  rw [List.map_cons, hq] at h
  exact lv_iand F.1 F.2.1 hd h
theorem a_ishr {a b z : Int} (hd : decode Y.2.1 pc = .ok (.ishr, 1)) (hz : shr32 a b = z) (k : Aj γ Y d mc ms Post (pc + 1) lv (vI z :: st) σ) : Aj γ Y d mc ms Post pc lv (vI b :: vI a :: st) σ := by
  intro p e R s m args below meth c H locs cells slots n0 ρ0 ρ ls F D
  have ib : inI b := ok_hd D.ok
  have ia : inI a := ok_hd (ok_tl D.ok)
  have h := k p e R s m args below meth c H locs cells slots n0 ρ0 ρ ls F (D.stk fun q => ok_cons (v := vI z) (by show inI z; rw [← hz]; exact in_shr a b) (ok_tl (ok_tl q)))
  have hq : cv γ ρ (vI z) = .int (Int32.ofInt a >>> (Int32.ofInt b &&& 31)) := congrArg Value.int (by rw [← hz]; exact i32_of _)
  rw [List.map_cons, hq] at h
  exact lv_ishr F.1 F.2.1 hd h
theorem a_iushr {a b z : Int} (hd : decode Y.2.1 pc = .ok (.iushr, 1)) (hz : ushr32 a b = z) (k : Aj γ Y d mc ms Post (pc + 1) lv (vI z :: st) σ) : Aj γ Y d mc ms Post pc lv (vI b :: vI a :: st) σ := by
  intro p e R s m args below meth c H locs cells slots n0 ρ0 ρ ls F D
  exact lv_iushr F.1 F.2.1 hd (by rw [← hz]; exact (i32_of _).symm) (k p e R s m args below meth c H locs cells slots n0 ρ0 ρ ls F (D.stk fun q => ok_cons (v := vI z) (by show inI z; rw [← hz]; exact in_ushr a b) (ok_tl (ok_tl q))))
theorem a_i2b {a z : Int} (hd : decode Y.2.1 pc = .ok (.i2b, 1)) (hz : b8 a = z) (k : Aj γ Y d mc ms Post (pc + 1) lv (vI z :: st) σ) : Aj γ Y d mc ms Post pc lv (vI a :: st) σ := by
  intro p e R s m args below meth c H locs cells slots n0 ρ0 ρ ls F D
  exact lv_i2b F.1 F.2.1 hd (by rw [← hz]; exact (i32_of _).symm) (k p e R s m args below meth c H locs cells slots n0 ρ0 ρ ls F (D.stk fun q => ok_cons (v := vI z) (by show inI z; rw [← hz]; exact in_b8 a) (ok_tl q)))
theorem a_i2s {a z : Int} (hd : decode Y.2.1 pc = .ok (.i2s, 1)) (hz : s16 a = z) (k : Aj γ Y d mc ms Post (pc + 1) lv (vI z :: st) σ) : Aj γ Y d mc ms Post pc lv (vI a :: st) σ := by
  intro p e R s m args below meth c H locs cells slots n0 ρ0 ρ ls F D
  exact lv_i2s F.1 F.2.1 hd (by rw [← hz]; exact (i32_of _).symm) (k p e R s m args below meth c H locs cells slots n0 ρ0 ρ ls F (D.stk fun q => ok_cons (v := vI z) (by show inI z; rw [← hz]; exact in_s16 a) (ok_tl q)))
theorem a_i2c {a z : Int} (hd : decode Y.2.1 pc = .ok (.i2c, 1)) (hz : c16 a = z) (k : Aj γ Y d mc ms Post (pc + 1) lv (vI z :: st) σ) : Aj γ Y d mc ms Post pc lv (vI a :: st) σ := by
  intro p e R s m args below meth c H locs cells slots n0 ρ0 ρ ls F D
  exact lv_i2c F.1 F.2.1 hd (by rw [← hz]; exact (i32_of _).symm) (k p e R s m args below meth c H locs cells slots n0 ρ0 ρ ls F (D.stk fun q => ok_cons (v := vI z) (by show inI z; rw [← hz]; exact in_c16 a) (ok_tl q)))
theorem a_i2l {a : Int} (hd : decode Y.2.1 pc = .ok (.i2l, 1)) (k : Aj γ Y d mc ms Post (pc + 1) lv (vL a :: st) σ) : Aj γ Y d mc ms Post pc lv (vI a :: st) σ := by
  intro p e R s m args below meth c H locs cells slots n0 ρ0 ρ ls F D
  have ia : inI a := ok_hd D.ok
  exact lv_i2l F.1 F.2.1 hd (i32_l ia) (k p e R s m args below meth c H locs cells slots n0 ρ0 ρ ls F (D.stk fun q => ok_cons (v := vL a) (by show inL a; unfold inI at ia; exact ⟨by omega, by omega⟩) (ok_tl q)))
theorem a_ladd {a b z : Int} (hd : decode Y.2.1 pc = .ok (.ladd, 1)) (hz : w64 (a + b) = z) (k : Aj γ Y d mc ms Post (pc + 1) lv (vL z :: st) σ) : Aj γ Y d mc ms Post pc lv (vL b :: vL a :: st) σ := by
  intro p e R s m args below meth c H locs cells slots n0 ρ0 ρ ls F D
  have h := k p e R s m args below meth c H locs cells slots n0 ρ0 ρ ls F (D.stk fun q => ok_cons (v := vL z) (by show inL z; rw [← hz]; exact w64_in _) (ok_tl (ok_tl q)))
  have hq : cv γ ρ (vL z) = .long (Int64.ofInt a + Int64.ofInt b) := congrArg Value.long (by rw [← hz, i64_w, Int64.ofInt_add])
  rw [List.map_cons, hq] at h
  exact lv_ladd F.1 F.2.1 hd h
theorem a_lmul {a b z : Int} (hd : decode Y.2.1 pc = .ok (.lmul, 1)) (hz : w64 (a * b) = z) (k : Aj γ Y d mc ms Post (pc + 1) lv (vL z :: st) σ) : Aj γ Y d mc ms Post pc lv (vL b :: vL a :: st) σ := by
  intro p e R s m args below meth c H locs cells slots n0 ρ0 ρ ls F D
  have h := k p e R s m args below meth c H locs cells slots n0 ρ0 ρ ls F (D.stk fun q => ok_cons (v := vL z) (by show inL z; rw [← hz]; exact w64_in _) (ok_tl (ok_tl q)))
  have hq : cv γ ρ (vL z) = .long (Int64.ofInt a * Int64.ofInt b) := congrArg Value.long (by rw [← hz, i64_w, Int64.ofInt_mul])
  rw [List.map_cons, hq] at h
  exact lv_lmul F.1 F.2.1 hd h
theorem a_lcmp {a b : Int} (hd : decode Y.2.1 pc = .ok (.lcmp, 1)) (k : Aj γ Y d mc ms Post (pc + 1) lv (vI (if b < a then 1 else if a = b then 0 else -1) :: st) σ) : Aj γ Y d mc ms Post pc lv (vL b :: vL a :: st) σ := by
  intro p e R s m args below meth c H locs cells slots n0 ρ0 ρ ls F D
  have ib : inL b := ok_hd D.ok
  have ia : inL a := ok_hd (ok_tl D.ok)
  have h := k p e R s m args below meth c H locs cells slots n0 ρ0 ρ ls F (D.stk fun q => ok_cons (v := vI (if b < a then 1 else if a = b then 0 else -1)) (by show inI (if b < a then 1 else if a = b then 0 else -1); unfold inI; split <;> (try split) <;> omega) (ok_tl (ok_tl q)))
  have hq : cv γ ρ (vI (if b < a then 1 else if a = b then 0 else -1)) = .int (lg_cmp (Int64.ofInt a) (Int64.ofInt b)) := by
    have e1 : Int64.ofInt b < Int64.ofInt a ↔ b < a := by rw [Int64.lt_iff_toInt_lt, i64_t ia, i64_t ib]
    have e2 : Int64.ofInt a = Int64.ofInt b ↔ a = b := ⟨fun h => by rw [← i64_t ia, ← i64_t ib, h], fun h => by rw [h]⟩
    refine congrArg Value.int ?_
    unfold lg_cmp
    by_cases h1 : b < a
    · simp [h1, e1.mpr h1]; try rfl
    · have h3 : ¬ Int64.ofInt b < Int64.ofInt a := fun h => h1 (e1.mp h)
      by_cases h2 : a = b
      · subst h2; simp; try rfl
      · have h4 : ¬ Int64.ofInt a = Int64.ofInt b := fun h => h2 (e2.mp h)
        simp [h1, h2, h3, h4]
        try rfl
  rw [List.map_cons, hq] at h
  exact W.lcmp F.1 F.2.1 hd h
theorem cat1 {ρ : Nat → Nat} {v : AV} (h : ¬ v.1 = 1) : (cv γ ρ v).category = 1 := by rw [cv_cat, if_neg h]
theorem cat2 {ρ : Nat → Nat} {v : AV} (h : v.1 = 1) : (cv γ ρ v).category = 2 := by rw [cv_cat, if_pos h]
theorem a_dup {v : AV} (hd : decode Y.2.1 pc = .ok (.dup, 1)) (hv : ¬ v.1 = 1) (k : Aj γ Y d mc ms Post (pc + 1) lv (v :: v :: st) σ) : Aj γ Y d mc ms Post pc lv (v :: st) σ := by
  intro p e R s m args below meth c H locs cells slots n0 ρ0 ρ ls F D
  exact lv_dup F.1 F.2.1 hd (cat1 hv) (k p e R s m args below meth c H locs cells slots n0 ρ0 ρ ls F (D.stk fun q => ok_cons (ok_hd q) q))
theorem a_pop {v : AV} (hd : decode Y.2.1 pc = .ok (.pop, 1)) (hv : ¬ v.1 = 1) (k : Aj γ Y d mc ms Post (pc + 1) lv st σ) : Aj γ Y d mc ms Post pc lv (v :: st) σ := by
  intro p e R s m args below meth c H locs cells slots n0 ρ0 ρ ls F D
  exact lv_pop F.1 F.2.1 hd (cat1 hv) (k p e R s m args below meth c H locs cells slots n0 ρ0 ρ ls F (D.stk ok_tl))
theorem a_dup2 {v w : AV} (hd : decode Y.2.1 pc = .ok (.dup2, 1)) (hv : ¬ v.1 = 1) (hw : ¬ w.1 = 1) (k : Aj γ Y d mc ms Post (pc + 1) lv (v :: w :: v :: w :: st) σ) : Aj γ Y d mc ms Post pc lv (v :: w :: st) σ := by
  intro p e R s m args below meth c H locs cells slots n0 ρ0 ρ ls F D
  exact lv_dup2_11 F.1 F.2.1 hd (cat1 hv) (cat1 hw) (k p e R s m args below meth c H locs cells slots n0 ρ0 ρ ls F (D.stk fun q => ok_cons (ok_hd q) (ok_cons (ok_hd (ok_tl q)) q)))
theorem a_icmp_eq {a b off : Int} {tgt : Nat} (hd : decode Y.2.1 pc = .ok (.if_icmp .eq off, 3)) (ht : (pc : Int) + off = (tgt : Int)) (kt : a = b → Aj γ Y d mc ms Post tgt lv st σ) (kf : ¬ a = b → Aj γ Y d mc ms Post (pc + 3) lv st σ) : Aj γ Y d mc ms Post pc lv (vI b :: vI a :: st) σ := by
  intro p e R s m args below meth c H locs cells slots n0 ρ0 ρ ls F D
  have ib : inI b := ok_hd D.ok
  have ia : inI a := ok_hd (ok_tl D.ok)
  exact lv_icmp_eq F.1 F.2.1 hd ht (fun h => kt ((i32_eq ia ib).mp h) p e R s m args below meth c H locs cells slots n0 ρ0 ρ ls F (D.stk fun q => ok_tl (ok_tl q))) (fun h => kf (fun q => h ((i32_eq ia ib).mpr q)) p e R s m args below meth c H locs cells slots n0 ρ0 ρ ls F (D.stk fun q => ok_tl (ok_tl q)))
theorem a_icmp_ne {a b off : Int} {tgt : Nat} (hd : decode Y.2.1 pc = .ok (.if_icmp .ne off, 3)) (ht : (pc : Int) + off = (tgt : Int)) (kt : ¬ a = b → Aj γ Y d mc ms Post tgt lv st σ) (kf : a = b → Aj γ Y d mc ms Post (pc + 3) lv st σ) : Aj γ Y d mc ms Post pc lv (vI b :: vI a :: st) σ := by
  intro p e R s m args below meth c H locs cells slots n0 ρ0 ρ ls F D
  have ib : inI b := ok_hd D.ok
  have ia : inI a := ok_hd (ok_tl D.ok)
  exact lv_icmp_ne F.1 F.2.1 hd ht (fun h => kt (fun q => h ((i32_eq ia ib).mpr q)) p e R s m args below meth c H locs cells slots n0 ρ0 ρ ls F (D.stk fun q => ok_tl (ok_tl q))) (fun h => kf ((i32_eq ia ib).mp h) p e R s m args below meth c H locs cells slots n0 ρ0 ρ ls F (D.stk fun q => ok_tl (ok_tl q)))
theorem a_icmp_lt {a b off : Int} {tgt : Nat} (hd : decode Y.2.1 pc = .ok (.if_icmp .lt off, 3)) (ht : (pc : Int) + off = (tgt : Int)) (kt : a < b → Aj γ Y d mc ms Post tgt lv st σ) (kf : ¬ a < b → Aj γ Y d mc ms Post (pc + 3) lv st σ) : Aj γ Y d mc ms Post pc lv (vI b :: vI a :: st) σ := by
  intro p e R s m args below meth c H locs cells slots n0 ρ0 ρ ls F D
  have ib : inI b := ok_hd D.ok
  have ia : inI a := ok_hd (ok_tl D.ok)
  exact lv_icmp_lt F.1 F.2.1 hd ht (fun h => kt ((i32_lt ia ib).mp h) p e R s m args below meth c H locs cells slots n0 ρ0 ρ ls F (D.stk fun q => ok_tl (ok_tl q))) (fun h => kf (fun q => h ((i32_lt ia ib).mpr q)) p e R s m args below meth c H locs cells slots n0 ρ0 ρ ls F (D.stk fun q => ok_tl (ok_tl q)))
theorem a_icmp_ge {a b off : Int} {tgt : Nat} (hd : decode Y.2.1 pc = .ok (.if_icmp .ge off, 3)) (ht : (pc : Int) + off = (tgt : Int)) (kt : b ≤ a → Aj γ Y d mc ms Post tgt lv st σ) (kf : ¬ b ≤ a → Aj γ Y d mc ms Post (pc + 3) lv st σ) : Aj γ Y d mc ms Post pc lv (vI b :: vI a :: st) σ := by
  intro p e R s m args below meth c H locs cells slots n0 ρ0 ρ ls F D
  have ib : inI b := ok_hd D.ok
  have ia : inI a := ok_hd (ok_tl D.ok)
  exact lv_icmp_ge F.1 F.2.1 hd ht (fun h => kt ((i32_le ib ia).mp h) p e R s m args below meth c H locs cells slots n0 ρ0 ρ ls F (D.stk fun q => ok_tl (ok_tl q))) (fun h => kf (fun q => h ((i32_le ib ia).mpr q)) p e R s m args below meth c H locs cells slots n0 ρ0 ρ ls F (D.stk fun q => ok_tl (ok_tl q)))
theorem a_icmp_gt {a b off : Int} {tgt : Nat} (hd : decode Y.2.1 pc = .ok (.if_icmp .gt off, 3)) (ht : (pc : Int) + off = (tgt : Int)) (kt : b < a → Aj γ Y d mc ms Post tgt lv st σ) (kf : ¬ b < a → Aj γ Y d mc ms Post (pc + 3) lv st σ) : Aj γ Y d mc ms Post pc lv (vI b :: vI a :: st) σ := by
  intro p e R s m args below meth c H locs cells slots n0 ρ0 ρ ls F D
  have ib : inI b := ok_hd D.ok
  have ia : inI a := ok_hd (ok_tl D.ok)
  exact lv_icmp_gt F.1 F.2.1 hd ht (fun h => kt ((i32_lt ib ia).mp h) p e R s m args below meth c H locs cells slots n0 ρ0 ρ ls F (D.stk fun q => ok_tl (ok_tl q))) (fun h => kf (fun q => h ((i32_lt ib ia).mpr q)) p e R s m args below meth c H locs cells slots n0 ρ0 ρ ls F (D.stk fun q => ok_tl (ok_tl q)))
theorem a_icmp_le {a b off : Int} {tgt : Nat} (hd : decode Y.2.1 pc = .ok (.if_icmp .le off, 3)) (ht : (pc : Int) + off = (tgt : Int)) (kt : a ≤ b → Aj γ Y d mc ms Post tgt lv st σ) (kf : ¬ a ≤ b → Aj γ Y d mc ms Post (pc + 3) lv st σ) : Aj γ Y d mc ms Post pc lv (vI b :: vI a :: st) σ := by
  intro p e R s m args below meth c H locs cells slots n0 ρ0 ρ ls F D
  have ib : inI b := ok_hd D.ok
  have ia : inI a := ok_hd (ok_tl D.ok)
  exact lv_icmp_le F.1 F.2.1 hd ht (fun h => kt ((i32_le ia ib).mp h) p e R s m args below meth c H locs cells slots n0 ρ0 ρ ls F (D.stk fun q => ok_tl (ok_tl q))) (fun h => kf (fun q => h ((i32_le ia ib).mpr q)) p e R s m args below meth c H locs cells slots n0 ρ0 ρ ls F (D.stk fun q => ok_tl (ok_tl q)))
theorem a_if_eq {a off : Int} {tgt : Nat} (hd : decode Y.2.1 pc = .ok (.ifCond .eq off, 3)) (ht : (pc : Int) + off = (tgt : Int)) (kt : a = 0 → Aj γ Y d mc ms Post tgt lv st σ) (kf : ¬ a = 0 → Aj γ Y d mc ms Post (pc + 3) lv st σ) : Aj γ Y d mc ms Post pc lv (vI a :: st) σ := by
  intro p e R s m args below meth c H locs cells slots n0 ρ0 ρ ls F D
  have i0 : inI 0 := in_0
  have ia : inI a := ok_hd D.ok
  exact lv_if_eq F.1 F.2.1 hd ht (fun h => kt ((i32_eq ia i0).mp h) p e R s m args below meth c H locs cells slots n0 ρ0 ρ ls F (D.stk ok_tl)) (fun h => kf (fun q => h ((i32_eq ia i0).mpr q)) p e R s m args below meth c H locs cells slots n0 ρ0 ρ ls F (D.stk ok_tl))
theorem a_if_ne {a off : Int} {tgt : Nat} (hd : decode Y.2.1 pc = .ok (.ifCond .ne off, 3)) (ht : (pc : Int) + off = (tgt : Int)) (kt : ¬ a = 0 → Aj γ Y d mc ms Post tgt lv st σ) (kf : a = 0 → Aj γ Y d mc ms Post (pc + 3) lv st σ) : Aj γ Y d mc ms Post pc lv (vI a :: st) σ := by
  intro p e R s m args below meth c H locs cells slots n0 ρ0 ρ ls F D
  have i0 : inI 0 := in_0
  have ia : inI a := ok_hd D.ok
  exact lv_if_ne F.1 F.2.1 hd ht (fun h => kt (fun q => h ((i32_eq ia i0).mpr q)) p e R s m args below meth c H locs cells slots n0 ρ0 ρ ls F (D.stk ok_tl)) (fun h => kf ((i32_eq ia i0).mp h) p e R s m args below meth c H locs cells slots n0 ρ0 ρ ls F (D.stk ok_tl))
theorem a_if_lt {a off : Int} {tgt : Nat} (hd : decode Y.2.1 pc = .ok (.ifCond .lt off, 3)) (ht : (pc : Int) + off = (tgt : Int)) (kt : a < 0 → Aj γ Y d mc ms Post tgt lv st σ) (kf : ¬ a < 0 → Aj γ Y d mc ms Post (pc + 3) lv st σ) : Aj γ Y d mc ms Post pc lv (vI a :: st) σ := by
  intro p e R s m args below meth c H locs cells slots n0 ρ0 ρ ls F D
  have i0 : inI 0 := in_0
  have ia : inI a := ok_hd D.ok
  exact lv_if_lt F.1 F.2.1 hd ht (fun h => kt ((i32_lt ia i0).mp h) p e R s m args below meth c H locs cells slots n0 ρ0 ρ ls F (D.stk ok_tl)) (fun h => kf (fun q => h ((i32_lt ia i0).mpr q)) p e R s m args below meth c H locs cells slots n0 ρ0 ρ ls F (D.stk ok_tl))
theorem a_if_ge {a off : Int} {tgt : Nat} (hd : decode Y.2.1 pc = .ok (.ifCond .ge off, 3)) (ht : (pc : Int) + off = (tgt : Int)) (kt : 0 ≤ a → Aj γ Y d mc ms Post tgt lv st σ) (kf : ¬ 0 ≤ a → Aj γ Y d mc ms Post (pc + 3) lv st σ) : Aj γ Y d mc ms Post pc lv (vI a :: st) σ := by
  intro p e R s m args below meth c H locs cells slots n0 ρ0 ρ ls F D
  have i0 : inI 0 := in_0
  have ia : inI a := ok_hd D.ok
  exact lv_if_ge F.1 F.2.1 hd ht (fun h => kt ((i32_le i0 ia).mp h) p e R s m args below meth c H locs cells slots n0 ρ0 ρ ls F (D.stk ok_tl)) (fun h => kf (fun q => h ((i32_le i0 ia).mpr q)) p e R s m args below meth c H locs cells slots n0 ρ0 ρ ls F (D.stk ok_tl))
theorem a_if_gt {a off : Int} {tgt : Nat} (hd : decode Y.2.1 pc = .ok (.ifCond .gt off, 3)) (ht : (pc : Int) + off = (tgt : Int)) (kt : 0 < a → Aj γ Y d mc ms Post tgt lv st σ) (kf : ¬ 0 < a → Aj γ Y d mc ms Post (pc + 3) lv st σ) : Aj γ Y d mc ms Post pc lv (vI a :: st) σ := by
  intro p e R s m args below meth c H locs cells slots n0 ρ0 ρ ls F D
  have i0 : inI 0 := in_0
  have ia : inI a := ok_hd D.ok
  exact lv_if_gt F.1 F.2.1 hd ht (fun h => kt ((i32_lt i0 ia).mp h) p e R s m args below meth c H locs cells slots n0 ρ0 ρ ls F (D.stk ok_tl)) (fun h => kf (fun q => h ((i32_lt i0 ia).mpr q)) p e R s m args below meth c H locs cells slots n0 ρ0 ρ ls F (D.stk ok_tl))
theorem a_if_le {a off : Int} {tgt : Nat} (hd : decode Y.2.1 pc = .ok (.ifCond .le off, 3)) (ht : (pc : Int) + off = (tgt : Int)) (kt : a ≤ 0 → Aj γ Y d mc ms Post tgt lv st σ) (kf : ¬ a ≤ 0 → Aj γ Y d mc ms Post (pc + 3) lv st σ) : Aj γ Y d mc ms Post pc lv (vI a :: st) σ := by
  intro p e R s m args below meth c H locs cells slots n0 ρ0 ρ ls F D
  have i0 : inI 0 := in_0
  have ia : inI a := ok_hd D.ok
  exact lv_if_le F.1 F.2.1 hd ht (fun h => kt ((i32_le ia i0).mp h) p e R s m args below meth c H locs cells slots n0 ρ0 ρ ls F (D.stk ok_tl)) (fun h => kf (fun q => h ((i32_le ia i0).mpr q)) p e R s m args below meth c H locs cells slots n0 ρ0 ρ ls F (D.stk ok_tl))
theorem a_goto {off : Int} {tgt : Nat} (hd : decode Y.2.1 pc = .ok (.goto off, 3)) (ht : (pc : Int) + off = (tgt : Int)) (k : Aj γ Y d mc ms Post tgt lv st σ) : Aj γ Y d mc ms Post pc lv st σ := by
  intro p e R s m args below meth c H locs cells slots n0 ρ0 ρ ls F D
  exact lv_goto F.1 F.2.1 hd ht (k p e R s m args below meth c H locs cells slots n0 ρ0 ρ ls F D)
theorem a_ifnull {z off : Int} {tgt : Nat} (hd : decode Y.2.1 pc = .ok (.ifnull off, 3)) (ht : (pc : Int) + off = (tgt : Int)) (kt : z < 0 → Aj γ Y d mc ms Post tgt lv st σ) (kf : ¬ z < 0 → Aj γ Y d mc ms Post (pc + 3) lv st σ) : Aj γ Y d mc ms Post pc lv ((2, z) :: st) σ := by
  intro p e R s m args below meth c H locs cells slots n0 ρ0 ρ ls F D
  by_cases hz : z < 0
  · have hq : cv γ ρ (2, z) = .null := if_pos hz
    rw [List.map_cons, hq]
    exact lv_ifnullN F.1 F.2.1 hd ht (kt hz p e R s m args below meth c H locs cells slots n0 ρ0 ρ ls F (D.stk ok_tl))
  · have hq : cv γ ρ (2, z) = .ref (ρ z.toNat) := if_neg hz
    rw [List.map_cons, hq]
    exact lv_ifnull F.1 F.2.1 hd (kf hz p e R s m args below meth c H locs cells slots n0 ρ0 ρ ls F (D.stk ok_tl))
theorem a_ifnonnull {z off : Int} {tgt : Nat} (hd : decode Y.2.1 pc = .ok (.ifnonnull off, 3)) (ht : (pc : Int) + off = (tgt : Int)) (kt : ¬ z < 0 → Aj γ Y d mc ms Post tgt lv st σ) (kf : z < 0 → Aj γ Y d mc ms Post (pc + 3) lv st σ) : Aj γ Y d mc ms Post pc lv ((2, z) :: st) σ := by
  intro p e R s m args below meth c H locs cells slots n0 ρ0 ρ ls F D
  by_cases hz : z < 0
  · have hq : cv γ ρ (2, z) = .null := if_pos hz
    rw [List.map_cons, hq]
    exact lv_ifnonnullN F.1 F.2.1 hd (kf hz p e R s m args below meth c H locs cells slots n0 ρ0 ρ ls F (D.stk ok_tl))
  · have hq : cv γ ρ (2, z) = .ref (ρ z.toNat) := if_neg hz
    rw [List.map_cons, hq]
    exact lv_ifnonnull F.1 F.2.1 hd ht (kt hz p e R s m args below meth c H locs cells slots n0 ρ0 ρ ls F (D.stk ok_tl))
theorem a_tblIn {a off dflt lo hi : Int} {offs : Array Int} {len tgt : Nat} (k : Nat) (hd : decode Y.2.1 pc = .ok (.tableswitch dflt lo hi offs, len)) (ha : a = lo + k ∧ a ≤ hi) (ho : offs[k]? = some off) (ht : (pc : Int) + off = (tgt : Int)) (kk : Aj γ Y d mc ms Post tgt lv st σ) : Aj γ Y d mc ms Post pc lv (vI a :: st) σ := by
  intro p e R s m args below meth c H locs cells slots n0 ρ0 ρ ls F D
  have ia : inI a := ok_hd D.ok
  refine lv_tableIn F.1 F.2.1 hd (by rw [i32_t ia]; omega) (by rw [i32_t ia]; omega) (by rw [i32_t ia, show (a - lo).toNat = k by omega]; exact ho) ht (kk p e R s m args below meth c H locs cells slots n0 ρ0 ρ ls F (D.stk ok_tl))
theorem a_tblOut {a dflt lo hi : Int} {offs : Array Int} {len tgt : Nat} (hd : decode Y.2.1 pc = .ok (.tableswitch dflt lo hi offs, len)) (ha : a < lo ∨ hi < a) (ht : (pc : Int) + dflt = (tgt : Int)) (kk : Aj γ Y d mc ms Post tgt lv st σ) : Aj γ Y d mc ms Post pc lv (vI a :: st) σ := by
  intro p e R s m args below meth c H locs cells slots n0 ρ0 ρ ls F D
  have ia : inI a := ok_hd D.ok
  exact lv_tableOut F.1 F.2.1 hd (by rw [i32_t ia]; exact ha) ht (kk p e R s m args below meth c H locs cells slots n0 ρ0 ρ ls F (D.stk ok_tl))
theorem a_lookup {a off dflt : Int} {ps : Array (Int × Int)} {len tgt : Nat} (hd : decode Y.2.1 pc = .ok (.lookupswitch dflt ps, len)) (hp : (ps.toList.zip (ps.toList.drop 1)).all (fun (a, next) => a.1 < next.1) = true) (ho : Op.lookupswitch.offset ps.toList dflt a = off) (ht : (pc : Int) + off = (tgt : Int)) (kk : Aj γ Y d mc ms Post tgt lv st σ) : Aj γ Y d mc ms Post pc lv (vI a :: st) σ := by
  intro p e R s m args below meth c H locs cells slots n0 ρ0 ρ ls F D
  have ia : inI a := ok_hd D.ok
  exact lv_lookup F.1 F.2.1 hd hp (by rw [i32_t ia]; exact ho) ht (kk p e R s m args below meth c H locs cells slots n0 ρ0 ρ ls F (D.stk ok_tl))
theorem w_end {s : State} {args : Array Value} {H : Heap} {locs : List Loc} {n0 : Nat} {ρ0 ρ : Nat → Nat} {ls : Array Slot} {r : Option AV} (D : Dy γ Y.2.2.1 n0 ρ0 ρ lv st σ s H locs ls) (hr : ∀ v, r = some v → okv σ.length v) (hp : Post r σ) : ∀ t : State, t.heap = H → s.WarmedH t.vm → QC γ ρ0 n0 Post args s (.returned (r.map (cv γ ρ))) t := by
  intro t ht _
  obtain ⟨h1, h2, h3, h4, h5, h6, h7⟩ := D
  exact ⟨⟨r, ρ, σ, rfl, hp, by rw [ht]; exact h2, hr, h3, h4⟩, h1.F ht⟩
theorem a_iret {a : Int} (hd : decode Y.2.1 pc = .ok (.ireturn, 1)) (hy : Y.2.2.2 = some .int) (k : Post (some (vI a)) σ) : Aj γ Y d mc ms Post pc lv [vI a] σ := by
  intro p e R s m args below meth c H locs cells slots n0 ρ0 ρ ls F D
  have hl := F.2.2.2.1
  refine W.widen (k := cells + mc) (n := slots + ms) (by omega) (by omega) ?_
  exact W.iret F.1 F.2.1 (by rw [F.2.2.1]; exact hy) (w_end (r := some (vI a)) D (fun v hv => by cases hv; exact ok_hd D.ok) k) D.1.2.2 hd hl
theorem nar_b {a : Int} (h : a = 0 ∨ a = 1) : narrow .boolean (.int (Int32.ofInt a)) = .int (Int32.ofInt a) := by
  rcases h with rfl | rfl <;> decide
theorem a_zret {a : Int} (hd : decode Y.2.1 pc = .ok (.ireturn, 1)) (hy : Y.2.2.2 = some .boolean) (ha : a = 0 ∨ a = 1) (k : Post (some (vI a)) σ) : Aj γ Y d mc ms Post pc lv [vI a] σ := by
  intro p e R s m args below meth c H locs cells slots n0 ρ0 ρ ls F D
  have hl := F.2.2.2.1
  refine W.widen (k := cells + mc) (n := slots + ms) (by omega) (by omega) ?_
  exact W.zret (ty := .boolean) F.1 F.2.1 (by rw [F.2.2.1]; exact hy) (nar_b ha) (w_end (r := some (vI a)) D (fun v hv => by cases hv; exact ok_hd D.ok) k) D.1.2.2 hd hl
theorem a_nret {a : Int} {ty : FieldType} (hd : decode Y.2.1 pc = .ok (.ireturn, 1)) (hy : Y.2.2.2 = some ty) (ha : narrow ty (.int (Int32.ofInt a)) = .int (Int32.ofInt a)) (k : Post (some (vI a)) σ) : Aj γ Y d mc ms Post pc lv [vI a] σ := by
  intro p e R s m args below meth c H locs cells slots n0 ρ0 ρ ls F D
  have hl := F.2.2.2.1
  refine W.widen (k := cells + mc) (n := slots + ms) (by omega) (by omega) ?_
  exact W.zret (ty := ty) F.1 F.2.1 (by rw [F.2.2.1]; exact hy) ha (w_end (r := some (vI a)) D (fun v hv => by cases hv; exact ok_hd D.ok) k) D.1.2.2 hd hl
theorem a_lret {a : Int} (hd : decode Y.2.1 pc = .ok (.lreturn, 1)) (hy : Y.2.2.2 = some .long) (k : Post (some (vL a)) σ) : Aj γ Y d mc ms Post pc lv [vL a] σ := by
  intro p e R s m args below meth c H locs cells slots n0 ρ0 ρ ls F D
  have hl := F.2.2.2.1
  refine W.widen (k := cells + mc) (n := slots + ms) (by omega) (by omega) ?_
  exact W.lret F.1 F.2.1 (by rw [F.2.2.1]; exact hy) (w_end (r := some (vL a)) D (fun v hv => by cases hv; exact ok_hd D.ok) k) D.1.2.2 hd hl
theorem a_aret {v : AV} {rt : FieldType} (hd : decode Y.2.1 pc = .ok (.areturn, 1)) (hy : Y.2.2.2 = some rt) (hrt : (∃ n, rt = .object n) ∨ ∃ t, rt = .array t) (hv : 2 ≤ v.1) (k : Post (some v) σ) : Aj γ Y d mc ms Post pc lv [v] σ := by
  intro p e R s m args below meth c H locs cells slots n0 ρ0 ρ ls F D
  have hl := F.2.2.2.1
  refine W.widen (k := cells + mc) (n := slots + ms) (by omega) (by omega) ?_
  exact W.aret F.1 F.2.1 (by rw [F.2.2.1]; exact hy) hrt (cv_ref hv) (w_end (r := some v) D (fun v hv => by cases hv; exact ok_hd D.ok) k) D.1.2.2 hd hl
theorem a_vret (hd : decode Y.2.1 pc = .ok (.return_, 1)) (hy : Y.2.2.2 = none) (k : Post none σ) : Aj γ Y d mc ms Post pc lv [] σ := by
  intro p e R s m args below meth c H locs cells slots n0 ρ0 ρ ls F D
  have hl := F.2.2.2.1
  refine W.widen (k := cells + mc) (n := slots + ms) (by omega) (by omega) ?_
  exact W.vret F.1 F.2.1 (by rw [F.2.2.1]; exact hy) (w_end (r := none) D (fun v hv => by cases hv) k) D.1.2.2 hd hl
end AR2
