section LDA
variable {γ : GT} {Y : MT} {d mc ms pc : Nat} {Post : Option AV → List AC → Prop} {lv : List (Nat × AV)} {st : List AV} {σ : List AC}
theorem b_ldA {i z : Int} (k : Nat) (hd : decode Y.2.1 pc = .ok (.iaload, 1)) (hi : i = (k : Int)) (hk : k < 6) (hz : (abv.getD k 0).toInt = z) (kk : Aj γ Y d mc ms Post (pc + 1) lv (vI z :: st) σ) : Aj γ Y d mc ms Post pc lv (vI i :: vK 1 :: st) σ := a_ldA k hd hi hk (by rw [hz]; exact kk)
theorem a_tblDf {a dflt lo hi : Int} {offs : Array Int} {len tgt : Nat} (hd : decode Y.2.1 pc = .ok (.tableswitch dflt lo hi offs, len)) (ha : (a < lo ∨ hi < a) ∨ ∃ k : Nat, a = lo + k ∧ a ≤ hi ∧ offs[k]? = some dflt) (ht : (pc : Int) + dflt = (tgt : Int)) (kk : Aj γ Y d mc ms Post tgt lv st σ) : Aj γ Y d mc ms Post pc lv (vI a :: st) σ := by
  rcases ha with h | ⟨k, h1, h2, h3⟩
  · exact a_tblOut hd h ht kk
  · exact a_tblIn k hd ⟨h1, h2⟩ h3 ht kk
end LDA
set_option maxHeartbeats 8000000 in
theorem c_X8_within {γ : GT} {d : Nat} {v a b : Int} {h : Nat → Nat → Int} {τ : List AC} {Post : Option AV → List AC → Prop} (hd : 0 ≤ d) (kT : a ≤ v ∧ v ≤ b → Post (some (vI 1)) (mk h τ)) (kF : ¬ (a ≤ v ∧ v ≤ b) → Post (some (vI 0)) (mk h τ)) : Cj γ mX8_within d 0 0 [vI v, vI a, vI b] (mk h τ) Post := by
  refine c_of (by decide) (Nat.le_of_ble_eq_true rfl) ?_
  show Aj γ mX8_within d 0 0 Post 0 [(0, vI v), (1, vI a), (2, vI b)] [] (mk h τ)
  refine a_iload_n (j := 0) dX8_within_0 rfl rfl ?_
  refine a_iload_n (j := 1) dX8_within_1 rfl rfl ?_
  refine a_icmp_lt (tgt := 14) dX8_within_2 (by decide) (fun c2_1 => ?_) (fun c2_1 => ?_)
  · refine a_iconst dX8_within_14 ⟨by decide, by decide⟩ ?_
    exact a_zret dX8_within_15 rfl (by first | exact Or.inl rfl | exact Or.inr rfl | omega) (kF (by omega))
  · refine a_iload_n (j := 0) dX8_within_5 rfl rfl ?_
    refine a_iload_n (j := 2) dX8_within_6 rfl rfl ?_
    refine a_icmp_gt (tgt := 14) dX8_within_7 (by decide) (fun c7_2 => ?_) (fun c7_2 => ?_)
    · refine a_iconst dX8_within_14 ⟨by decide, by decide⟩ ?_
      exact a_zret dX8_within_15 rfl (by first | exact Or.inl rfl | exact Or.inr rfl | omega) (kF (by omega))
    · refine a_iconst dX8_within_10 ⟨by decide, by decide⟩ ?_
      refine a_goto (tgt := 15) dX8_within_11 (by decide) ?_
      exact a_zret dX8_within_15 rfl (by first | exact Or.inl rfl | exact Or.inr rfl | omega) (kT (by omega))
set_option maxHeartbeats 8000000 in
theorem c_X8_isKind {γ : GT} {d : Nat} {v : Int} {h : Nat → Nat → Int} {τ : List AC} {Post : Option AV → List AC → Prop} (hd : 1 ≤ d) (kT : 0 ≤ v ∧ v ≤ 5 → Post (some (vI 1)) (mk h τ)) (kF : ¬ (0 ≤ v ∧ v ≤ 5) → Post (some (vI 0)) (mk h τ)) : Cj γ mX8_isKind d 0 0 [vI v] (mk h τ) Post := by
  refine c_of (by decide) (Nat.le_of_ble_eq_true rfl) ?_
  show Aj γ mX8_isKind d 0 0 Post 0 [(0, vI v)] [] (mk h τ)
  refine a_iload_n (j := 0) dX8_isKind_0 rfl rfl ?_
  refine a_iconst dX8_isKind_1 ⟨by decide, by decide⟩ ?_
  refine a_iconst dX8_isKind_2 ⟨by decide, by decide⟩ ?_
  refine a_callS (d' := d - 1) (mc' := 0) (ms' := 0) (mc1 := 0) (ms1 := 0) (st := []) [vI v, vI 0, vI 5] dX8_isKind_3 mwX8_within lkX8_68 rfl (Nat.le_of_ble_eq_true rfl) (by omega) rfl rfl (c_X8_within  (by omega)    (fun t3_1 => ?_) (fun t3_1 => ?_))
  · have t3_1 : 0 ≤ v ∧ v ≤ 5 := t3_1
    show Aj γ mX8_isKind d 0 0 Post 6 [(0, vI v)] [vI 1] (mk h τ)
    exact a_zret dX8_isKind_6 rfl (by first | exact Or.inl rfl | exact Or.inr rfl | omega) (kT (by omega))
  · have t3_1 : ¬ (0 ≤ v ∧ v ≤ 5) := t3_1
    show Aj γ mX8_isKind d 0 0 Post 6 [(0, vI v)] [vI 0] (mk h τ)
    exact a_zret dX8_isKind_6 rfl (by first | exact Or.inl rfl | exact Or.inr rfl | omega) (kF (by omega))
set_option maxHeartbeats 8000000 in
theorem c_X8_isLeave {γ : GT} {d : Nat} {v : Int} {h : Nat → Nat → Int} {τ : List AC} {Post : Option AV → List AC → Prop} (hd : 1 ≤ d) (kT : 0 ≤ v ∧ v ≤ 1439 → Post (some (vI 1)) (mk h τ)) (kF : ¬ (0 ≤ v ∧ v ≤ 1439) → Post (some (vI 0)) (mk h τ)) : Cj γ mX8_isLeave d 0 0 [vI v] (mk h τ) Post := by
  refine c_of (by decide) (Nat.le_of_ble_eq_true rfl) ?_
  show Aj γ mX8_isLeave d 0 0 Post 0 [(0, vI v)] [] (mk h τ)
  refine a_iload_n (j := 0) dX8_isLeave_0 rfl rfl ?_
  refine a_iconst dX8_isLeave_1 ⟨by decide, by decide⟩ ?_
  refine a_sipush dX8_isLeave_2 ⟨by decide, by decide, by decide⟩ ?_
  refine a_callS (d' := d - 1) (mc' := 0) (ms' := 0) (mc1 := 0) (ms1 := 0) (st := []) [vI v, vI 0, vI 1439] dX8_isLeave_5 mwX8_within lkX8_68 rfl (Nat.le_of_ble_eq_true rfl) (by omega) rfl rfl (c_X8_within  (by omega)    (fun t5_1 => ?_) (fun t5_1 => ?_))
  · have t5_1 : 0 ≤ v ∧ v ≤ 1439 := t5_1
    show Aj γ mX8_isLeave d 0 0 Post 8 [(0, vI v)] [vI 1] (mk h τ)
    exact a_zret dX8_isLeave_8 rfl (by first | exact Or.inl rfl | exact Or.inr rfl | omega) (kT (by omega))
  · have t5_1 : ¬ (0 ≤ v ∧ v ≤ 1439) := t5_1
    show Aj γ mX8_isLeave d 0 0 Post 8 [(0, vI v)] [vI 0] (mk h τ)
    exact a_zret dX8_isLeave_8 rfl (by first | exact Or.inl rfl | exact Or.inr rfl | omega) (kF (by omega))
set_option maxHeartbeats 8000000 in
theorem c_X8_isTakes {γ : GT} {d : Nat} {v : Int} {h : Nat → Nat → Int} {τ : List AC} {Post : Option AV → List AC → Prop} (hd : 1 ≤ d) (kT : 1 ≤ v ∧ v ≤ 600 → Post (some (vI 1)) (mk h τ)) (kF : ¬ (1 ≤ v ∧ v ≤ 600) → Post (some (vI 0)) (mk h τ)) : Cj γ mX8_isTakes d 0 0 [vI v] (mk h τ) Post := by
  refine c_of (by decide) (Nat.le_of_ble_eq_true rfl) ?_
  show Aj γ mX8_isTakes d 0 0 Post 0 [(0, vI v)] [] (mk h τ)
  refine a_iload_n (j := 0) dX8_isTakes_0 rfl rfl ?_
  refine a_iconst dX8_isTakes_1 ⟨by decide, by decide⟩ ?_
  refine a_sipush dX8_isTakes_2 ⟨by decide, by decide, by decide⟩ ?_
  refine a_callS (d' := d - 1) (mc' := 0) (ms' := 0) (mc1 := 0) (ms1 := 0) (st := []) [vI v, vI 1, vI 600] dX8_isTakes_5 mwX8_within lkX8_68 rfl (Nat.le_of_ble_eq_true rfl) (by omega) rfl rfl (c_X8_within  (by omega)    (fun t5_1 => ?_) (fun t5_1 => ?_))
  · have t5_1 : 1 ≤ v ∧ v ≤ 600 := t5_1
    show Aj γ mX8_isTakes d 0 0 Post 8 [(0, vI v)] [vI 1] (mk h τ)
    exact a_zret dX8_isTakes_8 rfl (by first | exact Or.inl rfl | exact Or.inr rfl | omega) (kT (by omega))
  · have t5_1 : ¬ (1 ≤ v ∧ v ≤ 600) := t5_1
    show Aj γ mX8_isTakes d 0 0 Post 8 [(0, vI v)] [vI 0] (mk h τ)
    exact a_zret dX8_isTakes_8 rfl (by first | exact Or.inl rfl | exact Or.inr rfl | omega) (kF (by omega))
set_option maxHeartbeats 8000000 in
theorem c_X8_isSheet {γ : GT} {d : Nat} {v : Int} {h : Nat → Nat → Int} {τ : List AC} {Post : Option AV → List AC → Prop} (hd : 1 ≤ d) (kT : 0 ≤ v ∧ v ≤ 3 → Post (some (vI 1)) (mk h τ)) (kF : ¬ (0 ≤ v ∧ v ≤ 3) → Post (some (vI 0)) (mk h τ)) : Cj γ mX8_isSheet d 0 0 [vI v] (mk h τ) Post := by
  refine c_of (by decide) (Nat.le_of_ble_eq_true rfl) ?_
  show Aj γ mX8_isSheet d 0 0 Post 0 [(0, vI v)] [] (mk h τ)
  refine a_iload_n (j := 0) dX8_isSheet_0 rfl rfl ?_
  refine a_iconst dX8_isSheet_1 ⟨by decide, by decide⟩ ?_
  refine a_iconst dX8_isSheet_2 ⟨by decide, by decide⟩ ?_
  refine a_callS (d' := d - 1) (mc' := 0) (ms' := 0) (mc1 := 0) (ms1 := 0) (st := []) [vI v, vI 0, vI 3] dX8_isSheet_3 mwX8_within lkX8_68 rfl (Nat.le_of_ble_eq_true rfl) (by omega) rfl rfl (c_X8_within  (by omega)    (fun t3_1 => ?_) (fun t3_1 => ?_))
  · have t3_1 : 0 ≤ v ∧ v ≤ 3 := t3_1
    show Aj γ mX8_isSheet d 0 0 Post 6 [(0, vI v)] [vI 1] (mk h τ)
    exact a_zret dX8_isSheet_6 rfl (by first | exact Or.inl rfl | exact Or.inr rfl | omega) (kT (by omega))
  · have t3_1 : ¬ (0 ≤ v ∧ v ≤ 3) := t3_1
    show Aj γ mX8_isSheet d 0 0 Post 6 [(0, vI v)] [vI 0] (mk h τ)
    exact a_zret dX8_isSheet_6 rfl (by first | exact Or.inl rfl | exact Or.inr rfl | omega) (kF (by omega))
set_option maxHeartbeats 8000000 in
theorem c_X8_isSlot {γ : GT} {d : Nat} {v : Int} {h : Nat → Nat → Int} {τ : List AC} {Post : Option AV → List AC → Prop} (hd : 1 ≤ d) (kT : 0 ≤ v ∧ v ≤ 4 → Post (some (vI 1)) (mk h τ)) (kF : ¬ (0 ≤ v ∧ v ≤ 4) → Post (some (vI 0)) (mk h τ)) : Cj γ mX8_isSlot d 0 0 [vI v] (mk h τ) Post := by
  refine c_of (by decide) (Nat.le_of_ble_eq_true rfl) ?_
  show Aj γ mX8_isSlot d 0 0 Post 0 [(0, vI v)] [] (mk h τ)
  refine a_iload_n (j := 0) dX8_isSlot_0 rfl rfl ?_
  refine a_iconst dX8_isSlot_1 ⟨by decide, by decide⟩ ?_
  refine a_iconst dX8_isSlot_2 ⟨by decide, by decide⟩ ?_
  refine a_callS (d' := d - 1) (mc' := 0) (ms' := 0) (mc1 := 0) (ms1 := 0) (st := []) [vI v, vI 0, vI 4] dX8_isSlot_3 mwX8_within lkX8_68 rfl (Nat.le_of_ble_eq_true rfl) (by omega) rfl rfl (c_X8_within  (by omega)    (fun t3_1 => ?_) (fun t3_1 => ?_))
  · have t3_1 : 0 ≤ v ∧ v ≤ 4 := t3_1
    show Aj γ mX8_isSlot d 0 0 Post 6 [(0, vI v)] [vI 1] (mk h τ)
    exact a_zret dX8_isSlot_6 rfl (by first | exact Or.inl rfl | exact Or.inr rfl | omega) (kT (by omega))
  · have t3_1 : ¬ (0 ≤ v ∧ v ≤ 4) := t3_1
    show Aj γ mX8_isSlot d 0 0 Post 6 [(0, vI v)] [vI 0] (mk h τ)
    exact a_zret dX8_isSlot_6 rfl (by first | exact Or.inl rfl | exact Or.inr rfl | omega) (kF (by omega))
theorem mw_max : Cond.static Lib.Math.max.name ∈ lw_tbl ∧ Cond.initialized "java/lang/Math" ∈ lw_tbl ∧ Cond.code Lib.Math.max.name Lib.Math.max.code 2 (some .int) ∈ lw_tbl := ⟨tb_2 (List.mem_of_getElem? (i := 201) (by decide +kernel : (tables_1_2)[201]? = some (Cond.static Lib.Math.max.name))), tb_1 (List.mem_of_getElem? (i := 11) (by decide +kernel : (tables_1_1)[11]? = some (Cond.initialized "java/lang/Math"))), tb_2 (List.mem_of_getElem? (i := 202) (by decide +kernel : (tables_1_2)[202]? = some (Cond.code Lib.Math.max.name Lib.Math.max.code 2 (some .int))))⟩
theorem a_mmax {γ : GT} {Y : MT} {d mc ms pc : Nat} {Post : Option AV → List AC → Prop} {lv : List (Nat × AV)} {st : List AV} {σ : List AC} {idx : Nat} {a b z : Int} (hd : decode Y.2.1 pc = .ok (.invokestatic idx, 3)) (hl : Cond.methodLink Y.1.cls idx Lib.Math.max.name ∈ lw_tbl) (hst : stw st ≤ 8) (hd' : 1 ≤ d) (hz : (if a < b then b else a) = z) (k : Aj γ Y d mc ms Post (pc + 3) lv (vI z :: st) σ) : Aj γ Y d mc ms Post pc lv (vI b :: vI a :: st) σ := by
  intro p e R s m args below meth c H locs cells slots n0 ρ0 ρ ls F D
  have ib : inI b := ok_hd D.ok
  have ia : inI a := ok_hd (ok_tl D.ok)
  have h := k p e R s m args below meth c H locs cells slots n0 ρ0 ρ ls F (D.stk fun q => ok_cons (v := vI z) (by show inI z; rw [← hz]; split <;> assumption) (ok_tl (ok_tl q)))
  have hq : cv γ ρ (vI z) = .int (if Int32.ofInt a < Int32.ofInt b then Int32.ofInt b else Int32.ofInt a) := congrArg Value.int (by
    rw [← hz]
    by_cases h0 : a < b
    · rw [if_pos h0, if_pos ((i32_lt ia ib).mpr h0)]
    · rw [if_neg h0, if_neg (fun q => h0 ((i32_lt ia ib).mp q))])
  rw [List.map_cons, hq] at h
  have hR := F.fr
  have hr := F.room
  exact va_mmax F.1 F.2.1 (by rw [F.ml]; exact D.2.2.2.2.2.2.1.symm) F.own (F.wd hl rfl) (F.wd mw_max.1 rfl) (F.wd mw_max.2.1 rfl) (F.wd mw_max.2.2 rfl) (by omega) (by rw [stw_of]; omega) (by omega) (by omega) hd h
theorem mw_min : Cond.static Lib.Math.min.name ∈ lw_tbl ∧ Cond.initialized "java/lang/Math" ∈ lw_tbl ∧ Cond.code Lib.Math.min.name Lib.Math.min.code 2 (some .int) ∈ lw_tbl := ⟨tb_2 (List.mem_of_getElem? (i := 198) (by decide +kernel : (tables_1_2)[198]? = some (Cond.static Lib.Math.min.name))), tb_1 (List.mem_of_getElem? (i := 11) (by decide +kernel : (tables_1_1)[11]? = some (Cond.initialized "java/lang/Math"))), tb_2 (List.mem_of_getElem? (i := 199) (by decide +kernel : (tables_1_2)[199]? = some (Cond.code Lib.Math.min.name Lib.Math.min.code 2 (some .int))))⟩
theorem a_mmin {γ : GT} {Y : MT} {d mc ms pc : Nat} {Post : Option AV → List AC → Prop} {lv : List (Nat × AV)} {st : List AV} {σ : List AC} {idx : Nat} {a b z : Int} (hd : decode Y.2.1 pc = .ok (.invokestatic idx, 3)) (hl : Cond.methodLink Y.1.cls idx Lib.Math.min.name ∈ lw_tbl) (hst : stw st ≤ 8) (hd' : 1 ≤ d) (hz : (if b < a then b else a) = z) (k : Aj γ Y d mc ms Post (pc + 3) lv (vI z :: st) σ) : Aj γ Y d mc ms Post pc lv (vI b :: vI a :: st) σ := by
  intro p e R s m args below meth c H locs cells slots n0 ρ0 ρ ls F D
  have ib : inI b := ok_hd D.ok
  have ia : inI a := ok_hd (ok_tl D.ok)
  have h := k p e R s m args below meth c H locs cells slots n0 ρ0 ρ ls F (D.stk fun q => ok_cons (v := vI z) (by show inI z; rw [← hz]; split <;> assumption) (ok_tl (ok_tl q)))
  have hq : cv γ ρ (vI z) = .int (if Int32.ofInt b < Int32.ofInt a then Int32.ofInt b else Int32.ofInt a) := congrArg Value.int (by
    rw [← hz]
    by_cases h0 : b < a
    · rw [if_pos h0, if_pos ((i32_lt ib ia).mpr h0)]
    · rw [if_neg h0, if_neg (fun q => h0 ((i32_lt ib ia).mp q))])
  rw [List.map_cons, hq] at h
  have hR := F.fr
  have hr := F.room
  exact va_mmin F.1 F.2.1 (by rw [F.ml]; exact D.2.2.2.2.2.2.1.symm) F.own (F.wd hl rfl) (F.wd mw_min.1 rfl) (F.wd mw_min.2.1 rfl) (F.wd mw_min.2.2 rfl) (by omega) (by rw [stw_of]; omega) (by omega) (by omega) hd h
theorem mlX8_334 : Cond.methodLink RX8 334 Lib.Math.min.name ∈ lw_tbl := tb_2 (List.mem_of_getElem? (i := 197) (by decide +kernel : (tables_1_2)[197]? = some (Cond.methodLink RX8 334 Lib.Math.min.name)))
theorem mlX8_339 : Cond.methodLink RX8 339 Lib.Math.max.name ∈ lw_tbl := tb_2 (List.mem_of_getElem? (i := 200) (by decide +kernel : (tables_1_2)[200]? = some (Cond.methodLink RX8 339 Lib.Math.max.name)))
theorem mlX5_159 : Cond.methodLink RX5 159 Lib.Math.max.name ∈ lw_tbl := tb_3 (List.mem_of_getElem? (i := 103) (by decide +kernel : (tables_1_3)[103]? = some (Cond.methodLink RX5 159 Lib.Math.max.name)))
theorem mlX0_106 : Cond.methodLink RX0 106 Lib.Math.max.name ∈ lw_tbl := tb_3 (List.mem_of_getElem? (i := 185) (by decide +kernel : (tables_1_3)[185]? = some (Cond.methodLink RX0 106 Lib.Math.max.name)))
theorem mlJ1_92 : Cond.methodLink RJ1 92 Lib.Math.max.name ∈ lw_tbl := tb_4 (List.mem_of_getElem? (i := 105) (by decide +kernel : (tables_1_4)[105]? = some (Cond.methodLink RJ1 92 Lib.Math.max.name)))
theorem mlJ1_38 : Cond.methodLink RJ1 38 Lib.Math.min.name ∈ lw_tbl := tb_4 (List.mem_of_getElem? (i := 106) (by decide +kernel : (tables_1_4)[106]? = some (Cond.methodLink RJ1 38 Lib.Math.min.name)))
theorem mlJ2_224 : Cond.methodLink RJ2 224 Lib.Math.max.name ∈ lw_tbl := tb_4 (List.mem_of_getElem? (i := 113) (by decide +kernel : (tables_1_4)[113]? = some (Cond.methodLink RJ2 224 Lib.Math.max.name)))
theorem mlJ2_183 : Cond.methodLink RJ2 183 Lib.Math.min.name ∈ lw_tbl := tb_4 (List.mem_of_getElem? (i := 114) (by decide +kernel : (tables_1_4)[114]? = some (Cond.methodLink RJ2 183 Lib.Math.min.name)))
theorem mlJ7_304 : Cond.methodLink RJ7 304 Lib.Math.min.name ∈ lw_tbl := tb_4 (List.mem_of_getElem? (i := 177) (by decide +kernel : (tables_1_4)[177]? = some (Cond.methodLink RJ7 304 Lib.Math.min.name)))
theorem zz_p1 : plainName RJ0 = true := by decide
theorem zz_p2 : plainName RJ1 = true := by decide
theorem zz_p3 : plainName RJ7 = true := by decide
theorem zz_p4 : plainName RJ3 = true := by decide
/-- v, held within a .. b -/
def hw (v a b : Int) : Int := if v < a then a else if b < v then b else v
theorem post_v {Post : Option AV → List AC → Prop} {σ : List AC} {a b : Int} (h : Post (some (vI a)) σ) (e : a = b) : Post (some (vI b)) σ := e ▸ h
set_option maxHeartbeats 8000000 in
theorem c_X8_heldWithin {γ : GT} {d : Nat} {v a b : Int} {h : Nat → Nat → Int} {τ : List AC} {Post : Option AV → List AC → Prop} (hd : 1 ≤ d) (hab : a ≤ b) (kQ : Post (some (vI (hw v a b))) (mk h τ)) : Cj γ mX8_heldWithin d 0 0 [vI v, vI a, vI b] (mk h τ) Post := by
  refine c_of (by decide) (Nat.le_of_ble_eq_true rfl) ?_
  show Aj γ mX8_heldWithin d 0 0 Post 0 [(0, vI v), (1, vI a), (2, vI b)] [] (mk h τ)
  refine a_iload_n (j := 1) dX8_heldWithin_0 rfl rfl ?_
  refine a_iload_n (j := 2) dX8_heldWithin_1 rfl rfl ?_
  refine a_iload_n (j := 0) dX8_heldWithin_2 rfl rfl ?_
  refine a_mmin (z := (if v < b then v else b)) dX8_heldWithin_3 mlX8_334 (Nat.le_of_ble_eq_true rfl) (by omega) rfl ?_
  refine a_mmax (z := (if a < (if v < b then v else b) then (if v < b then v else b) else a)) dX8_heldWithin_6 mlX8_339 (Nat.le_of_ble_eq_true rfl) (by omega) rfl ?_
  exact a_iret dX8_heldWithin_9 rfl (post_v kQ (by unfold hw; split <;> (try split) <;> (try split) <;> omega))
set_option maxHeartbeats 8000000 in
theorem c_X8_areChances {γ : GT} {d : Nat} {a b c : Int} {h : Nat → Nat → Int} {τ : List AC} {Post : Option AV → List AC → Prop} (hd : 1 ≤ d) (kT : (0 ≤ a ∧ a ≤ 100) ∧ (0 ≤ b ∧ b ≤ 100) ∧ (0 ≤ c ∧ c ≤ 100) ∧ a + b + c ≤ 100 → Post (some (vI 1)) (mk h τ)) (kF : ¬ ((0 ≤ a ∧ a ≤ 100) ∧ (0 ≤ b ∧ b ≤ 100) ∧ (0 ≤ c ∧ c ≤ 100) ∧ a + b + c ≤ 100) → Post (some (vI 0)) (mk h τ)) : Cj γ mX8_areChances d 0 0 [vI a, vI b, vI c] (mk h τ) Post := by
  refine c_of (by decide) (Nat.le_of_ble_eq_true rfl) ?_
  show Aj γ mX8_areChances d 0 0 Post 0 [(0, vI a), (1, vI b), (2, vI c)] [] (mk h τ)
  refine a_iload_n (j := 0) dX8_areChances_0 rfl rfl ?_
  refine a_iconst dX8_areChances_1 ⟨by decide, by decide⟩ ?_
  refine a_bipush dX8_areChances_2 ⟨by decide, by decide, by decide⟩ ?_
  refine a_callS (d' := d - 1) (mc' := 0) (ms' := 0) (mc1 := 0) (ms1 := 0) (st := []) [vI a, vI 0, vI 100] dX8_areChances_4 mwX8_within lkX8_68 rfl (Nat.le_of_ble_eq_true rfl) (by omega) rfl rfl (c_X8_within  (by omega)    (fun t4_1 => ?_) (fun t4_1 => ?_))
  · have t4_1 : 0 ≤ a ∧ a ≤ 100 := t4_1
    show Aj γ mX8_areChances d 0 0 Post 7 [(0, vI a), (1, vI b), (2, vI c)] [vI 1] (mk h τ)
    refine a_if_eq (tgt := 44) dX8_areChances_7 (by decide) (fun c => absurd c (by decide)) (fun _ => ?_)
    refine a_iload_n (j := 1) dX8_areChances_10 rfl rfl ?_
    refine a_iconst dX8_areChances_11 ⟨by decide, by decide⟩ ?_
    refine a_bipush dX8_areChances_12 ⟨by decide, by decide, by decide⟩ ?_
    refine a_callS (d' := d - 1) (mc' := 0) (ms' := 0) (mc1 := 0) (ms1 := 0) (st := []) [vI b, vI 0, vI 100] dX8_areChances_14 mwX8_within lkX8_68 rfl (Nat.le_of_ble_eq_true rfl) (by omega) rfl rfl (c_X8_within  (by omega)    (fun t14_2 => ?_) (fun t14_2 => ?_))
    · have t14_2 : 0 ≤ b ∧ b ≤ 100 := t14_2
      show Aj γ mX8_areChances d 0 0 Post 17 [(0, vI a), (1, vI b), (2, vI c)] [vI 1] (mk h τ)
      refine a_if_eq (tgt := 44) dX8_areChances_17 (by decide) (fun c => absurd c (by decide)) (fun _ => ?_)
      refine a_iload_n (j := 2) dX8_areChances_20 rfl rfl ?_
      refine a_iconst dX8_areChances_21 ⟨by decide, by decide⟩ ?_
      refine a_bipush dX8_areChances_22 ⟨by decide, by decide, by decide⟩ ?_
      refine a_callS (d' := d - 1) (mc' := 0) (ms' := 0) (mc1 := 0) (ms1 := 0) (st := []) [vI c, vI 0, vI 100] dX8_areChances_24 mwX8_within lkX8_68 rfl (Nat.le_of_ble_eq_true rfl) (by omega) rfl rfl (c_X8_within  (by omega)    (fun t24_3 => ?_) (fun t24_3 => ?_))
      · have t24_3 : 0 ≤ c ∧ c ≤ 100 := t24_3
        show Aj γ mX8_areChances d 0 0 Post 27 [(0, vI a), (1, vI b), (2, vI c)] [vI 1] (mk h τ)
        refine a_if_eq (tgt := 44) dX8_areChances_27 (by decide) (fun c => absurd c (by decide)) (fun _ => ?_)
        refine a_iload_n (j := 0) dX8_areChances_30 rfl rfl ?_
        refine a_iload_n (j := 1) dX8_areChances_31 rfl rfl ?_
        refine a_iadd (z := (a + b)) dX8_areChances_32 (w_ok (by omega) (by omega)) ?_
        refine a_iload_n (j := 2) dX8_areChances_33 rfl rfl ?_
        refine a_iadd (z := ((a + b) + c)) dX8_areChances_34 (w_ok (by omega) (by omega)) ?_
        refine a_bipush dX8_areChances_35 ⟨by decide, by decide, by decide⟩ ?_
        refine a_icmp_gt (tgt := 44) dX8_areChances_37 (by decide) (fun c37_4 => ?_) (fun c37_4 => ?_)
        · refine a_iconst dX8_areChances_44 ⟨by decide, by decide⟩ ?_
          exact a_zret dX8_areChances_45 rfl (by first | exact Or.inl rfl | exact Or.inr rfl | omega) (kF (by omega))
        · refine a_iconst dX8_areChances_40 ⟨by decide, by decide⟩ ?_
          refine a_goto (tgt := 45) dX8_areChances_41 (by decide) ?_
          exact a_zret dX8_areChances_45 rfl (by first | exact Or.inl rfl | exact Or.inr rfl | omega) (kT (by omega))
      · have t24_3 : ¬ (0 ≤ c ∧ c ≤ 100) := t24_3
        show Aj γ mX8_areChances d 0 0 Post 27 [(0, vI a), (1, vI b), (2, vI c)] [vI 0] (mk h τ)
        refine a_if_eq (tgt := 44) dX8_areChances_27 (by decide) (fun _ => ?_) (fun c => absurd c (by decide))
        refine a_iconst dX8_areChances_44 ⟨by decide, by decide⟩ ?_
        exact a_zret dX8_areChances_45 rfl (by first | exact Or.inl rfl | exact Or.inr rfl | omega) (kF (by omega))
    · have t14_2 : ¬ (0 ≤ b ∧ b ≤ 100) := t14_2
      show Aj γ mX8_areChances d 0 0 Post 17 [(0, vI a), (1, vI b), (2, vI c)] [vI 0] (mk h τ)
      refine a_if_eq (tgt := 44) dX8_areChances_17 (by decide) (fun _ => ?_) (fun c => absurd c (by decide))
      refine a_iconst dX8_areChances_44 ⟨by decide, by decide⟩ ?_
      exact a_zret dX8_areChances_45 rfl (by first | exact Or.inl rfl | exact Or.inr rfl | omega) (kF (by omega))
  · have t4_1 : ¬ (0 ≤ a ∧ a ≤ 100) := t4_1
    show Aj γ mX8_areChances d 0 0 Post 7 [(0, vI a), (1, vI b), (2, vI c)] [vI 0] (mk h τ)
    refine a_if_eq (tgt := 44) dX8_areChances_7 (by decide) (fun _ => ?_) (fun c => absurd c (by decide))
    refine a_iconst dX8_areChances_44 ⟨by decide, by decide⟩ ?_
    exact a_zret dX8_areChances_45 rfl (by first | exact Or.inl rfl | exact Or.inr rfl | omega) (kF (by omega))
set_option maxHeartbeats 8000000 in
theorem c_X8_isUnder {γ : GT} {d : Nat} {k o : Int} {h : Nat → Nat → Int} {τ : List AC} {Post : Option AV → List AC → Prop} (hd : 2 ≤ d) (hk : 0 ≤ k ∧ k ≤ 5) (kT : (o = 0 ∨ k = o ∨ (o = 1 ∧ k = 3) ∨ (o = 2 ∧ k = 4)) → Post (some (vI 1)) (mk h τ)) (kF : ¬ ((o = 0 ∨ k = o ∨ (o = 1 ∧ k = 3) ∨ (o = 2 ∧ k = 4))) → Post (some (vI 0)) (mk h τ)) : Cj γ mX8_isUnder d 0 0 [vI k, vI o] (mk h τ) Post := by
  refine c_of (by decide) (Nat.le_of_ble_eq_true rfl) ?_
  rcases (show k = 0 ∨ k = 1 ∨ k = 2 ∨ k = 3 ∨ k = 4 ∨ k = 5 by omega) with rfl | rfl | rfl | rfl | rfl | rfl
  · show Aj γ mX8_isUnder d 0 0 Post 0 [(0, vI 0), (1, vI o)] [] (mk h τ)
    refine a_iload_n (j := 0) dX8_isUnder_0 rfl rfl ?_
    refine a_istore_n (lv' := [(2, vI 0), (0, vI 0), (1, vI o)]) dX8_isUnder_1 rfl (by decide) rfl ?_
    refine a_iconst dX8_isUnder_2 ⟨by decide, by decide⟩ ?_
    refine a_istore_n (lv' := [(3, vI 0), (2, vI 0), (0, vI 0), (1, vI o)]) dX8_isUnder_3 rfl (by decide) rfl ?_
    refine a_iload_n (j := 0) dX8_isUnder_4 rfl rfl ?_
    refine a_bipush dX8_isUnder_5 ⟨by decide, by decide, by decide⟩ ?_
    refine a_icmp_ge (tgt := 36) dX8_isUnder_7 (by decide) (fun c => absurd c (by decide)) (fun _ => ?_)
    refine a_iload_n (j := 1) dX8_isUnder_10 rfl rfl ?_
    refine a_callS (d' := d - 1) (mc' := 0) (ms' := 0) (mc1 := 0) (ms1 := 0) (st := []) [vI 0] dX8_isUnder_11 mwX8_isKind lkX8_93 rfl (Nat.le_of_ble_eq_true rfl) (by omega) rfl rfl (c_X8_isKind  (by omega)    (fun t11_1 => ?_) (fun t11_1 => ?_))
    · have t11_1 : (0 : Int) ≤ (0 : Int) ∧ (0 : Int) ≤ (5 : Int) := t11_1
      show Aj γ mX8_isUnder d 0 0 Post 14 [(3, vI 0), (2, vI 0), (0, vI 0), (1, vI o)] [vI 1] (mk h τ)
      refine a_if_eq (tgt := 36) dX8_isUnder_14 (by decide) (fun c => absurd c (by decide)) (fun _ => ?_)
      refine a_iload_n (j := 1) dX8_isUnder_17 rfl rfl ?_
      refine a_iload_n (j := 3) dX8_isUnder_18 rfl rfl ?_
      refine a_icmp_ne (tgt := 24) dX8_isUnder_19 (by decide) (fun c19_2 => ?_) (fun c19_2 => ?_)
      · refine a_above dX8_isUnder_24 ab_w ?_
        refine a_iload_n (j := 1) dX8_isUnder_27 rfl rfl ?_
        refine b_ldA (z := (-1)) 0 dX8_isUnder_28 rfl (by decide) (by decide +kernel) ?_
        refine a_istore_n (lv' := [(2, vI (-1)), (3, vI 0), (0, vI 0), (1, vI o)]) dX8_isUnder_29 rfl (by decide) rfl ?_
        refine a_iinc (j := 1) (z' := 1) (lv' := [(3, vI 1), (2, vI (-1)), (0, vI 0), (1, vI o)]) dX8_isUnder_30 rfl (w_ok (by omega) (by omega)) (by decide) rfl ?_
        refine a_goto (tgt := 4) dX8_isUnder_33 (by decide) ?_
        refine a_iload_n (j := 0) dX8_isUnder_4 rfl rfl ?_
        refine a_bipush dX8_isUnder_5 ⟨by decide, by decide, by decide⟩ ?_
        refine a_icmp_ge (tgt := 36) dX8_isUnder_7 (by decide) (fun c => absurd c (by decide)) (fun _ => ?_)
        refine a_iload_n (j := 1) dX8_isUnder_10 rfl rfl ?_
        refine a_callS (d' := d - 1) (mc' := 0) (ms' := 0) (mc1 := 0) (ms1 := 0) (st := []) [vI (-1)] dX8_isUnder_11 mwX8_isKind lkX8_93 rfl (Nat.le_of_ble_eq_true rfl) (by omega) rfl rfl (c_X8_isKind  (by omega)    (fun t11_3 => ?_) (fun t11_3 => ?_))
        · exact absurd (show (0 : Int) ≤ (-1 : Int) ∧ (-1 : Int) ≤ (5 : Int) from t11_3) (by omega)
        · have t11_3 : ¬ ((0 : Int) ≤ (-1 : Int) ∧ (-1 : Int) ≤ (5 : Int)) := t11_3
          show Aj γ mX8_isUnder d 0 0 Post 14 [(3, vI 1), (2, vI (-1)), (0, vI 0), (1, vI o)] [vI 0] (mk h τ)
          refine a_if_eq (tgt := 36) dX8_isUnder_14 (by decide) (fun _ => ?_) (fun c => absurd c (by decide))
          refine a_iconst dX8_isUnder_36 ⟨by decide, by decide⟩ ?_
          exact a_zret dX8_isUnder_37 rfl (by first | exact Or.inl rfl | exact Or.inr rfl | omega) (kF (by omega))
      · refine a_iconst dX8_isUnder_22 ⟨by decide, by decide⟩ ?_
        exact a_zret dX8_isUnder_23 rfl (by first | exact Or.inl rfl | exact Or.inr rfl | omega) (kT (by omega))
    · exact absurd (show ¬ ((0 : Int) ≤ (0 : Int) ∧ (0 : Int) ≤ (5 : Int)) from t11_1) (by omega)
  · show Aj γ mX8_isUnder d 0 0 Post 0 [(0, vI 1), (1, vI o)] [] (mk h τ)
    refine a_iload_n (j := 0) dX8_isUnder_0 rfl rfl ?_
    refine a_istore_n (lv' := [(2, vI 1), (0, vI 1), (1, vI o)]) dX8_isUnder_1 rfl (by decide) rfl ?_
    refine a_iconst dX8_isUnder_2 ⟨by decide, by decide⟩ ?_
    refine a_istore_n (lv' := [(3, vI 0), (2, vI 1), (0, vI 1), (1, vI o)]) dX8_isUnder_3 rfl (by decide) rfl ?_
    refine a_iload_n (j := 0) dX8_isUnder_4 rfl rfl ?_
    refine a_bipush dX8_isUnder_5 ⟨by decide, by decide, by decide⟩ ?_
    refine a_icmp_ge (tgt := 36) dX8_isUnder_7 (by decide) (fun c => absurd c (by decide)) (fun _ => ?_)
    refine a_iload_n (j := 1) dX8_isUnder_10 rfl rfl ?_
    refine a_callS (d' := d - 1) (mc' := 0) (ms' := 0) (mc1 := 0) (ms1 := 0) (st := []) [vI 1] dX8_isUnder_11 mwX8_isKind lkX8_93 rfl (Nat.le_of_ble_eq_true rfl) (by omega) rfl rfl (c_X8_isKind  (by omega)    (fun t11_4 => ?_) (fun t11_4 => ?_))
    · have t11_4 : (0 : Int) ≤ (1 : Int) ∧ (1 : Int) ≤ (5 : Int) := t11_4
      show Aj γ mX8_isUnder d 0 0 Post 14 [(3, vI 0), (2, vI 1), (0, vI 1), (1, vI o)] [vI 1] (mk h τ)
      refine a_if_eq (tgt := 36) dX8_isUnder_14 (by decide) (fun c => absurd c (by decide)) (fun _ => ?_)
      refine a_iload_n (j := 1) dX8_isUnder_17 rfl rfl ?_
      refine a_iload_n (j := 3) dX8_isUnder_18 rfl rfl ?_
      refine a_icmp_ne (tgt := 24) dX8_isUnder_19 (by decide) (fun c19_5 => ?_) (fun c19_5 => ?_)
      · refine a_above dX8_isUnder_24 ab_w ?_
        refine a_iload_n (j := 1) dX8_isUnder_27 rfl rfl ?_
        refine b_ldA (z := 0) 1 dX8_isUnder_28 rfl (by decide) (by decide +kernel) ?_
        refine a_istore_n (lv' := [(2, vI 0), (3, vI 0), (0, vI 1), (1, vI o)]) dX8_isUnder_29 rfl (by decide) rfl ?_
        refine a_iinc (j := 1) (z' := 1) (lv' := [(3, vI 1), (2, vI 0), (0, vI 1), (1, vI o)]) dX8_isUnder_30 rfl (w_ok (by omega) (by omega)) (by decide) rfl ?_
        refine a_goto (tgt := 4) dX8_isUnder_33 (by decide) ?_
        refine a_iload_n (j := 0) dX8_isUnder_4 rfl rfl ?_
        refine a_bipush dX8_isUnder_5 ⟨by decide, by decide, by decide⟩ ?_
        refine a_icmp_ge (tgt := 36) dX8_isUnder_7 (by decide) (fun c => absurd c (by decide)) (fun _ => ?_)
        refine a_iload_n (j := 1) dX8_isUnder_10 rfl rfl ?_
        refine a_callS (d' := d - 1) (mc' := 0) (ms' := 0) (mc1 := 0) (ms1 := 0) (st := []) [vI 0] dX8_isUnder_11 mwX8_isKind lkX8_93 rfl (Nat.le_of_ble_eq_true rfl) (by omega) rfl rfl (c_X8_isKind  (by omega)    (fun t11_6 => ?_) (fun t11_6 => ?_))
        · have t11_6 : (0 : Int) ≤ (0 : Int) ∧ (0 : Int) ≤ (5 : Int) := t11_6
          show Aj γ mX8_isUnder d 0 0 Post 14 [(3, vI 1), (2, vI 0), (0, vI 1), (1, vI o)] [vI 1] (mk h τ)
          refine a_if_eq (tgt := 36) dX8_isUnder_14 (by decide) (fun c => absurd c (by decide)) (fun _ => ?_)
          refine a_iload_n (j := 1) dX8_isUnder_17 rfl rfl ?_
          refine a_iload_n (j := 3) dX8_isUnder_18 rfl rfl ?_
          refine a_icmp_ne (tgt := 24) dX8_isUnder_19 (by decide) (fun c19_7 => ?_) (fun c19_7 => ?_)
          · refine a_above dX8_isUnder_24 ab_w ?_
            refine a_iload_n (j := 1) dX8_isUnder_27 rfl rfl ?_
            refine b_ldA (z := (-1)) 0 dX8_isUnder_28 rfl (by decide) (by decide +kernel) ?_
            refine a_istore_n (lv' := [(2, vI (-1)), (3, vI 1), (0, vI 1), (1, vI o)]) dX8_isUnder_29 rfl (by decide) rfl ?_
            refine a_iinc (j := 1) (z' := 2) (lv' := [(3, vI 2), (2, vI (-1)), (0, vI 1), (1, vI o)]) dX8_isUnder_30 rfl (w_ok (by omega) (by omega)) (by decide) rfl ?_
            refine a_goto (tgt := 4) dX8_isUnder_33 (by decide) ?_
            refine a_iload_n (j := 0) dX8_isUnder_4 rfl rfl ?_
            refine a_bipush dX8_isUnder_5 ⟨by decide, by decide, by decide⟩ ?_
            refine a_icmp_ge (tgt := 36) dX8_isUnder_7 (by decide) (fun c => absurd c (by decide)) (fun _ => ?_)
            refine a_iload_n (j := 1) dX8_isUnder_10 rfl rfl ?_
            refine a_callS (d' := d - 1) (mc' := 0) (ms' := 0) (mc1 := 0) (ms1 := 0) (st := []) [vI (-1)] dX8_isUnder_11 mwX8_isKind lkX8_93 rfl (Nat.le_of_ble_eq_true rfl) (by omega) rfl rfl (c_X8_isKind  (by omega)    (fun t11_8 => ?_) (fun t11_8 => ?_))
            · exact absurd (show (0 : Int) ≤ (-1 : Int) ∧ (-1 : Int) ≤ (5 : Int) from t11_8) (by omega)
            · have t11_8 : ¬ ((0 : Int) ≤ (-1 : Int) ∧ (-1 : Int) ≤ (5 : Int)) := t11_8
              show Aj γ mX8_isUnder d 0 0 Post 14 [(3, vI 2), (2, vI (-1)), (0, vI 1), (1, vI o)] [vI 0] (mk h τ)
              refine a_if_eq (tgt := 36) dX8_isUnder_14 (by decide) (fun _ => ?_) (fun c => absurd c (by decide))
              refine a_iconst dX8_isUnder_36 ⟨by decide, by decide⟩ ?_
              exact a_zret dX8_isUnder_37 rfl (by first | exact Or.inl rfl | exact Or.inr rfl | omega) (kF (by omega))
          · refine a_iconst dX8_isUnder_22 ⟨by decide, by decide⟩ ?_
            exact a_zret dX8_isUnder_23 rfl (by first | exact Or.inl rfl | exact Or.inr rfl | omega) (kT (by omega))
        · exact absurd (show ¬ ((0 : Int) ≤ (0 : Int) ∧ (0 : Int) ≤ (5 : Int)) from t11_6) (by omega)
      · refine a_iconst dX8_isUnder_22 ⟨by decide, by decide⟩ ?_
        exact a_zret dX8_isUnder_23 rfl (by first | exact Or.inl rfl | exact Or.inr rfl | omega) (kT (by omega))
    · exact absurd (show ¬ ((0 : Int) ≤ (1 : Int) ∧ (1 : Int) ≤ (5 : Int)) from t11_4) (by omega)
  · show Aj γ mX8_isUnder d 0 0 Post 0 [(0, vI 2), (1, vI o)] [] (mk h τ)
    refine a_iload_n (j := 0) dX8_isUnder_0 rfl rfl ?_
    refine a_istore_n (lv' := [(2, vI 2), (0, vI 2), (1, vI o)]) dX8_isUnder_1 rfl (by decide) rfl ?_
    refine a_iconst dX8_isUnder_2 ⟨by decide, by decide⟩ ?_
    refine a_istore_n (lv' := [(3, vI 0), (2, vI 2), (0, vI 2), (1, vI o)]) dX8_isUnder_3 rfl (by decide) rfl ?_
    refine a_iload_n (j := 0) dX8_isUnder_4 rfl rfl ?_
    refine a_bipush dX8_isUnder_5 ⟨by decide, by decide, by decide⟩ ?_
    refine a_icmp_ge (tgt := 36) dX8_isUnder_7 (by decide) (fun c => absurd c (by decide)) (fun _ => ?_)
    refine a_iload_n (j := 1) dX8_isUnder_10 rfl rfl ?_
    refine a_callS (d' := d - 1) (mc' := 0) (ms' := 0) (mc1 := 0) (ms1 := 0) (st := []) [vI 2] dX8_isUnder_11 mwX8_isKind lkX8_93 rfl (Nat.le_of_ble_eq_true rfl) (by omega) rfl rfl (c_X8_isKind  (by omega)    (fun t11_9 => ?_) (fun t11_9 => ?_))
    · have t11_9 : (0 : Int) ≤ (2 : Int) ∧ (2 : Int) ≤ (5 : Int) := t11_9
      show Aj γ mX8_isUnder d 0 0 Post 14 [(3, vI 0), (2, vI 2), (0, vI 2), (1, vI o)] [vI 1] (mk h τ)
      refine a_if_eq (tgt := 36) dX8_isUnder_14 (by decide) (fun c => absurd c (by decide)) (fun _ => ?_)
      refine a_iload_n (j := 1) dX8_isUnder_17 rfl rfl ?_
      refine a_iload_n (j := 3) dX8_isUnder_18 rfl rfl ?_
      refine a_icmp_ne (tgt := 24) dX8_isUnder_19 (by decide) (fun c19_10 => ?_) (fun c19_10 => ?_)
      · refine a_above dX8_isUnder_24 ab_w ?_
        refine a_iload_n (j := 1) dX8_isUnder_27 rfl rfl ?_
        refine b_ldA (z := 0) 2 dX8_isUnder_28 rfl (by decide) (by decide +kernel) ?_
        refine a_istore_n (lv' := [(2, vI 0), (3, vI 0), (0, vI 2), (1, vI o)]) dX8_isUnder_29 rfl (by decide) rfl ?_
        refine a_iinc (j := 1) (z' := 1) (lv' := [(3, vI 1), (2, vI 0), (0, vI 2), (1, vI o)]) dX8_isUnder_30 rfl (w_ok (by omega) (by omega)) (by decide) rfl ?_
        refine a_goto (tgt := 4) dX8_isUnder_33 (by decide) ?_
        refine a_iload_n (j := 0) dX8_isUnder_4 rfl rfl ?_
        refine a_bipush dX8_isUnder_5 ⟨by decide, by decide, by decide⟩ ?_
        refine a_icmp_ge (tgt := 36) dX8_isUnder_7 (by decide) (fun c => absurd c (by decide)) (fun _ => ?_)
        refine a_iload_n (j := 1) dX8_isUnder_10 rfl rfl ?_
        refine a_callS (d' := d - 1) (mc' := 0) (ms' := 0) (mc1 := 0) (ms1 := 0) (st := []) [vI 0] dX8_isUnder_11 mwX8_isKind lkX8_93 rfl (Nat.le_of_ble_eq_true rfl) (by omega) rfl rfl (c_X8_isKind  (by omega)    (fun t11_11 => ?_) (fun t11_11 => ?_))
        · have t11_11 : (0 : Int) ≤ (0 : Int) ∧ (0 : Int) ≤ (5 : Int) := t11_11
          show Aj γ mX8_isUnder d 0 0 Post 14 [(3, vI 1), (2, vI 0), (0, vI 2), (1, vI o)] [vI 1] (mk h τ)
          refine a_if_eq (tgt := 36) dX8_isUnder_14 (by decide) (fun c => absurd c (by decide)) (fun _ => ?_)
          refine a_iload_n (j := 1) dX8_isUnder_17 rfl rfl ?_
          refine a_iload_n (j := 3) dX8_isUnder_18 rfl rfl ?_
          refine a_icmp_ne (tgt := 24) dX8_isUnder_19 (by decide) (fun c19_12 => ?_) (fun c19_12 => ?_)
          · refine a_above dX8_isUnder_24 ab_w ?_
            refine a_iload_n (j := 1) dX8_isUnder_27 rfl rfl ?_
            refine b_ldA (z := (-1)) 0 dX8_isUnder_28 rfl (by decide) (by decide +kernel) ?_
            refine a_istore_n (lv' := [(2, vI (-1)), (3, vI 1), (0, vI 2), (1, vI o)]) dX8_isUnder_29 rfl (by decide) rfl ?_
            refine a_iinc (j := 1) (z' := 2) (lv' := [(3, vI 2), (2, vI (-1)), (0, vI 2), (1, vI o)]) dX8_isUnder_30 rfl (w_ok (by omega) (by omega)) (by decide) rfl ?_
            refine a_goto (tgt := 4) dX8_isUnder_33 (by decide) ?_
            refine a_iload_n (j := 0) dX8_isUnder_4 rfl rfl ?_
            refine a_bipush dX8_isUnder_5 ⟨by decide, by decide, by decide⟩ ?_
            refine a_icmp_ge (tgt := 36) dX8_isUnder_7 (by decide) (fun c => absurd c (by decide)) (fun _ => ?_)
            refine a_iload_n (j := 1) dX8_isUnder_10 rfl rfl ?_
            refine a_callS (d' := d - 1) (mc' := 0) (ms' := 0) (mc1 := 0) (ms1 := 0) (st := []) [vI (-1)] dX8_isUnder_11 mwX8_isKind lkX8_93 rfl (Nat.le_of_ble_eq_true rfl) (by omega) rfl rfl (c_X8_isKind  (by omega)    (fun t11_13 => ?_) (fun t11_13 => ?_))
            · exact absurd (show (0 : Int) ≤ (-1 : Int) ∧ (-1 : Int) ≤ (5 : Int) from t11_13) (by omega)
            · have t11_13 : ¬ ((0 : Int) ≤ (-1 : Int) ∧ (-1 : Int) ≤ (5 : Int)) := t11_13
              show Aj γ mX8_isUnder d 0 0 Post 14 [(3, vI 2), (2, vI (-1)), (0, vI 2), (1, vI o)] [vI 0] (mk h τ)
              refine a_if_eq (tgt := 36) dX8_isUnder_14 (by decide) (fun _ => ?_) (fun c => absurd c (by decide))
              refine a_iconst dX8_isUnder_36 ⟨by decide, by decide⟩ ?_
              exact a_zret dX8_isUnder_37 rfl (by first | exact Or.inl rfl | exact Or.inr rfl | omega) (kF (by omega))
          · refine a_iconst dX8_isUnder_22 ⟨by decide, by decide⟩ ?_
            exact a_zret dX8_isUnder_23 rfl (by first | exact Or.inl rfl | exact Or.inr rfl | omega) (kT (by omega))
        · exact absurd (show ¬ ((0 : Int) ≤ (0 : Int) ∧ (0 : Int) ≤ (5 : Int)) from t11_11) (by omega)
      · refine a_iconst dX8_isUnder_22 ⟨by decide, by decide⟩ ?_
        exact a_zret dX8_isUnder_23 rfl (by first | exact Or.inl rfl | exact Or.inr rfl | omega) (kT (by omega))
    · exact absurd (show ¬ ((0 : Int) ≤ (2 : Int) ∧ (2 : Int) ≤ (5 : Int)) from t11_9) (by omega)
  · show Aj γ mX8_isUnder d 0 0 Post 0 [(0, vI 3), (1, vI o)] [] (mk h τ)
    refine a_iload_n (j := 0) dX8_isUnder_0 rfl rfl ?_
    refine a_istore_n (lv' := [(2, vI 3), (0, vI 3), (1, vI o)]) dX8_isUnder_1 rfl (by decide) rfl ?_
    refine a_iconst dX8_isUnder_2 ⟨by decide, by decide⟩ ?_
    refine a_istore_n (lv' := [(3, vI 0), (2, vI 3), (0, vI 3), (1, vI o)]) dX8_isUnder_3 rfl (by decide) rfl ?_
    refine a_iload_n (j := 0) dX8_isUnder_4 rfl rfl ?_
    refine a_bipush dX8_isUnder_5 ⟨by decide, by decide, by decide⟩ ?_
    refine a_icmp_ge (tgt := 36) dX8_isUnder_7 (by decide) (fun c => absurd c (by decide)) (fun _ => ?_)
    refine a_iload_n (j := 1) dX8_isUnder_10 rfl rfl ?_
    refine a_callS (d' := d - 1) (mc' := 0) (ms' := 0) (mc1 := 0) (ms1 := 0) (st := []) [vI 3] dX8_isUnder_11 mwX8_isKind lkX8_93 rfl (Nat.le_of_ble_eq_true rfl) (by omega) rfl rfl (c_X8_isKind  (by omega)    (fun t11_14 => ?_) (fun t11_14 => ?_))
    · have t11_14 : (0 : Int) ≤ (3 : Int) ∧ (3 : Int) ≤ (5 : Int) := t11_14
      show Aj γ mX8_isUnder d 0 0 Post 14 [(3, vI 0), (2, vI 3), (0, vI 3), (1, vI o)] [vI 1] (mk h τ)
      refine a_if_eq (tgt := 36) dX8_isUnder_14 (by decide) (fun c => absurd c (by decide)) (fun _ => ?_)
      refine a_iload_n (j := 1) dX8_isUnder_17 rfl rfl ?_
      refine a_iload_n (j := 3) dX8_isUnder_18 rfl rfl ?_
      refine a_icmp_ne (tgt := 24) dX8_isUnder_19 (by decide) (fun c19_15 => ?_) (fun c19_15 => ?_)
      · refine a_above dX8_isUnder_24 ab_w ?_
        refine a_iload_n (j := 1) dX8_isUnder_27 rfl rfl ?_
        refine b_ldA (z := 1) 3 dX8_isUnder_28 rfl (by decide) (by decide +kernel) ?_
        refine a_istore_n (lv' := [(2, vI 1), (3, vI 0), (0, vI 3), (1, vI o)]) dX8_isUnder_29 rfl (by decide) rfl ?_
        refine a_iinc (j := 1) (z' := 1) (lv' := [(3, vI 1), (2, vI 1), (0, vI 3), (1, vI o)]) dX8_isUnder_30 rfl (w_ok (by omega) (by omega)) (by decide) rfl ?_
        refine a_goto (tgt := 4) dX8_isUnder_33 (by decide) ?_
        refine a_iload_n (j := 0) dX8_isUnder_4 rfl rfl ?_
        refine a_bipush dX8_isUnder_5 ⟨by decide, by decide, by decide⟩ ?_
        refine a_icmp_ge (tgt := 36) dX8_isUnder_7 (by decide) (fun c => absurd c (by decide)) (fun _ => ?_)
        refine a_iload_n (j := 1) dX8_isUnder_10 rfl rfl ?_
        refine a_callS (d' := d - 1) (mc' := 0) (ms' := 0) (mc1 := 0) (ms1 := 0) (st := []) [vI 1] dX8_isUnder_11 mwX8_isKind lkX8_93 rfl (Nat.le_of_ble_eq_true rfl) (by omega) rfl rfl (c_X8_isKind  (by omega)    (fun t11_16 => ?_) (fun t11_16 => ?_))
        · have t11_16 : (0 : Int) ≤ (1 : Int) ∧ (1 : Int) ≤ (5 : Int) := t11_16
          show Aj γ mX8_isUnder d 0 0 Post 14 [(3, vI 1), (2, vI 1), (0, vI 3), (1, vI o)] [vI 1] (mk h τ)
          refine a_if_eq (tgt := 36) dX8_isUnder_14 (by decide) (fun c => absurd c (by decide)) (fun _ => ?_)
          refine a_iload_n (j := 1) dX8_isUnder_17 rfl rfl ?_
          refine a_iload_n (j := 3) dX8_isUnder_18 rfl rfl ?_
          refine a_icmp_ne (tgt := 24) dX8_isUnder_19 (by decide) (fun c19_17 => ?_) (fun c19_17 => ?_)
          · refine a_above dX8_isUnder_24 ab_w ?_
            refine a_iload_n (j := 1) dX8_isUnder_27 rfl rfl ?_
            refine b_ldA (z := 0) 1 dX8_isUnder_28 rfl (by decide) (by decide +kernel) ?_
            refine a_istore_n (lv' := [(2, vI 0), (3, vI 1), (0, vI 3), (1, vI o)]) dX8_isUnder_29 rfl (by decide) rfl ?_
            refine a_iinc (j := 1) (z' := 2) (lv' := [(3, vI 2), (2, vI 0), (0, vI 3), (1, vI o)]) dX8_isUnder_30 rfl (w_ok (by omega) (by omega)) (by decide) rfl ?_
            refine a_goto (tgt := 4) dX8_isUnder_33 (by decide) ?_
            refine a_iload_n (j := 0) dX8_isUnder_4 rfl rfl ?_
            refine a_bipush dX8_isUnder_5 ⟨by decide, by decide, by decide⟩ ?_
            refine a_icmp_ge (tgt := 36) dX8_isUnder_7 (by decide) (fun c => absurd c (by decide)) (fun _ => ?_)
            refine a_iload_n (j := 1) dX8_isUnder_10 rfl rfl ?_
            refine a_callS (d' := d - 1) (mc' := 0) (ms' := 0) (mc1 := 0) (ms1 := 0) (st := []) [vI 0] dX8_isUnder_11 mwX8_isKind lkX8_93 rfl (Nat.le_of_ble_eq_true rfl) (by omega) rfl rfl (c_X8_isKind  (by omega)    (fun t11_18 => ?_) (fun t11_18 => ?_))
            · have t11_18 : (0 : Int) ≤ (0 : Int) ∧ (0 : Int) ≤ (5 : Int) := t11_18
              show Aj γ mX8_isUnder d 0 0 Post 14 [(3, vI 2), (2, vI 0), (0, vI 3), (1, vI o)] [vI 1] (mk h τ)
              refine a_if_eq (tgt := 36) dX8_isUnder_14 (by decide) (fun c => absurd c (by decide)) (fun _ => ?_)
              refine a_iload_n (j := 1) dX8_isUnder_17 rfl rfl ?_
              refine a_iload_n (j := 3) dX8_isUnder_18 rfl rfl ?_
              refine a_icmp_ne (tgt := 24) dX8_isUnder_19 (by decide) (fun c19_19 => ?_) (fun c19_19 => ?_)
              · refine a_above dX8_isUnder_24 ab_w ?_
                refine a_iload_n (j := 1) dX8_isUnder_27 rfl rfl ?_
                refine b_ldA (z := (-1)) 0 dX8_isUnder_28 rfl (by decide) (by decide +kernel) ?_
                refine a_istore_n (lv' := [(2, vI (-1)), (3, vI 2), (0, vI 3), (1, vI o)]) dX8_isUnder_29 rfl (by decide) rfl ?_
                refine a_iinc (j := 1) (z' := 3) (lv' := [(3, vI 3), (2, vI (-1)), (0, vI 3), (1, vI o)]) dX8_isUnder_30 rfl (w_ok (by omega) (by omega)) (by decide) rfl ?_
                refine a_goto (tgt := 4) dX8_isUnder_33 (by decide) ?_
                refine a_iload_n (j := 0) dX8_isUnder_4 rfl rfl ?_
                refine a_bipush dX8_isUnder_5 ⟨by decide, by decide, by decide⟩ ?_
                refine a_icmp_ge (tgt := 36) dX8_isUnder_7 (by decide) (fun c => absurd c (by decide)) (fun _ => ?_)
                refine a_iload_n (j := 1) dX8_isUnder_10 rfl rfl ?_
                refine a_callS (d' := d - 1) (mc' := 0) (ms' := 0) (mc1 := 0) (ms1 := 0) (st := []) [vI (-1)] dX8_isUnder_11 mwX8_isKind lkX8_93 rfl (Nat.le_of_ble_eq_true rfl) (by omega) rfl rfl (c_X8_isKind  (by omega)    (fun t11_20 => ?_) (fun t11_20 => ?_))
                · exact absurd (show (0 : Int) ≤ (-1 : Int) ∧ (-1 : Int) ≤ (5 : Int) from t11_20) (by omega)
                · have t11_20 : ¬ ((0 : Int) ≤ (-1 : Int) ∧ (-1 : Int) ≤ (5 : Int)) := t11_20
                  show Aj γ mX8_isUnder d 0 0 Post 14 [(3, vI 3), (2, vI (-1)), (0, vI 3), (1, vI o)] [vI 0] (mk h τ)
                  refine a_if_eq (tgt := 36) dX8_isUnder_14 (by decide) (fun _ => ?_) (fun c => absurd c (by decide))
                  refine a_iconst dX8_isUnder_36 ⟨by decide, by decide⟩ ?_
                  exact a_zret dX8_isUnder_37 rfl (by first | exact Or.inl rfl | exact Or.inr rfl | omega) (kF (by omega))
              · refine a_iconst dX8_isUnder_22 ⟨by decide, by decide⟩ ?_
                exact a_zret dX8_isUnder_23 rfl (by first | exact Or.inl rfl | exact Or.inr rfl | omega) (kT (by omega))
            · exact absurd (show ¬ ((0 : Int) ≤ (0 : Int) ∧ (0 : Int) ≤ (5 : Int)) from t11_18) (by omega)
          · refine a_iconst dX8_isUnder_22 ⟨by decide, by decide⟩ ?_
            exact a_zret dX8_isUnder_23 rfl (by first | exact Or.inl rfl | exact Or.inr rfl | omega) (kT (by omega))
        · exact absurd (show ¬ ((0 : Int) ≤ (1 : Int) ∧ (1 : Int) ≤ (5 : Int)) from t11_16) (by omega)
      · refine a_iconst dX8_isUnder_22 ⟨by decide, by decide⟩ ?_
        exact a_zret dX8_isUnder_23 rfl (by first | exact Or.inl rfl | exact Or.inr rfl | omega) (kT (by omega))
    · exact absurd (show ¬ ((0 : Int) ≤ (3 : Int) ∧ (3 : Int) ≤ (5 : Int)) from t11_14) (by omega)
  · show Aj γ mX8_isUnder d 0 0 Post 0 [(0, vI 4), (1, vI o)] [] (mk h τ)
    refine a_iload_n (j := 0) dX8_isUnder_0 rfl rfl ?_
    refine a_istore_n (lv' := [(2, vI 4), (0, vI 4), (1, vI o)]) dX8_isUnder_1 rfl (by decide) rfl ?_
    refine a_iconst dX8_isUnder_2 ⟨by decide, by decide⟩ ?_
    refine a_istore_n (lv' := [(3, vI 0), (2, vI 4), (0, vI 4), (1, vI o)]) dX8_isUnder_3 rfl (by decide) rfl ?_
    refine a_iload_n (j := 0) dX8_isUnder_4 rfl rfl ?_
    refine a_bipush dX8_isUnder_5 ⟨by decide, by decide, by decide⟩ ?_
    refine a_icmp_ge (tgt := 36) dX8_isUnder_7 (by decide) (fun c => absurd c (by decide)) (fun _ => ?_)
    refine a_iload_n (j := 1) dX8_isUnder_10 rfl rfl ?_
    refine a_callS (d' := d - 1) (mc' := 0) (ms' := 0) (mc1 := 0) (ms1 := 0) (st := []) [vI 4] dX8_isUnder_11 mwX8_isKind lkX8_93 rfl (Nat.le_of_ble_eq_true rfl) (by omega) rfl rfl (c_X8_isKind  (by omega)    (fun t11_21 => ?_) (fun t11_21 => ?_))
    · have t11_21 : (0 : Int) ≤ (4 : Int) ∧ (4 : Int) ≤ (5 : Int) := t11_21
      show Aj γ mX8_isUnder d 0 0 Post 14 [(3, vI 0), (2, vI 4), (0, vI 4), (1, vI o)] [vI 1] (mk h τ)
      refine a_if_eq (tgt := 36) dX8_isUnder_14 (by decide) (fun c => absurd c (by decide)) (fun _ => ?_)
      refine a_iload_n (j := 1) dX8_isUnder_17 rfl rfl ?_
      refine a_iload_n (j := 3) dX8_isUnder_18 rfl rfl ?_
      refine a_icmp_ne (tgt := 24) dX8_isUnder_19 (by decide) (fun c19_22 => ?_) (fun c19_22 => ?_)
      · refine a_above dX8_isUnder_24 ab_w ?_
        refine a_iload_n (j := 1) dX8_isUnder_27 rfl rfl ?_
        refine b_ldA (z := 2) 4 dX8_isUnder_28 rfl (by decide) (by decide +kernel) ?_
        refine a_istore_n (lv' := [(2, vI 2), (3, vI 0), (0, vI 4), (1, vI o)]) dX8_isUnder_29 rfl (by decide) rfl ?_
        refine a_iinc (j := 1) (z' := 1) (lv' := [(3, vI 1), (2, vI 2), (0, vI 4), (1, vI o)]) dX8_isUnder_30 rfl (w_ok (by omega) (by omega)) (by decide) rfl ?_
        refine a_goto (tgt := 4) dX8_isUnder_33 (by decide) ?_
        refine a_iload_n (j := 0) dX8_isUnder_4 rfl rfl ?_
        refine a_bipush dX8_isUnder_5 ⟨by decide, by decide, by decide⟩ ?_
        refine a_icmp_ge (tgt := 36) dX8_isUnder_7 (by decide) (fun c => absurd c (by decide)) (fun _ => ?_)
        refine a_iload_n (j := 1) dX8_isUnder_10 rfl rfl ?_
        refine a_callS (d' := d - 1) (mc' := 0) (ms' := 0) (mc1 := 0) (ms1 := 0) (st := []) [vI 2] dX8_isUnder_11 mwX8_isKind lkX8_93 rfl (Nat.le_of_ble_eq_true rfl) (by omega) rfl rfl (c_X8_isKind  (by omega)    (fun t11_23 => ?_) (fun t11_23 => ?_))
        · have t11_23 : (0 : Int) ≤ (2 : Int) ∧ (2 : Int) ≤ (5 : Int) := t11_23
          show Aj γ mX8_isUnder d 0 0 Post 14 [(3, vI 1), (2, vI 2), (0, vI 4), (1, vI o)] [vI 1] (mk h τ)
          refine a_if_eq (tgt := 36) dX8_isUnder_14 (by decide) (fun c => absurd c (by decide)) (fun _ => ?_)
          refine a_iload_n (j := 1) dX8_isUnder_17 rfl rfl ?_
          refine a_iload_n (j := 3) dX8_isUnder_18 rfl rfl ?_
          refine a_icmp_ne (tgt := 24) dX8_isUnder_19 (by decide) (fun c19_24 => ?_) (fun c19_24 => ?_)
          · refine a_above dX8_isUnder_24 ab_w ?_
            refine a_iload_n (j := 1) dX8_isUnder_27 rfl rfl ?_
            refine b_ldA (z := 0) 2 dX8_isUnder_28 rfl (by decide) (by decide +kernel) ?_
            refine a_istore_n (lv' := [(2, vI 0), (3, vI 1), (0, vI 4), (1, vI o)]) dX8_isUnder_29 rfl (by decide) rfl ?_
            refine a_iinc (j := 1) (z' := 2) (lv' := [(3, vI 2), (2, vI 0), (0, vI 4), (1, vI o)]) dX8_isUnder_30 rfl (w_ok (by omega) (by omega)) (by decide) rfl ?_
            refine a_goto (tgt := 4) dX8_isUnder_33 (by decide) ?_
            refine a_iload_n (j := 0) dX8_isUnder_4 rfl rfl ?_
            refine a_bipush dX8_isUnder_5 ⟨by decide, by decide, by decide⟩ ?_
            refine a_icmp_ge (tgt := 36) dX8_isUnder_7 (by decide) (fun c => absurd c (by decide)) (fun _ => ?_)
            refine a_iload_n (j := 1) dX8_isUnder_10 rfl rfl ?_
            refine a_callS (d' := d - 1) (mc' := 0) (ms' := 0) (mc1 := 0) (ms1 := 0) (st := []) [vI 0] dX8_isUnder_11 mwX8_isKind lkX8_93 rfl (Nat.le_of_ble_eq_true rfl) (by omega) rfl rfl (c_X8_isKind  (by omega)    (fun t11_25 => ?_) (fun t11_25 => ?_))
            · have t11_25 : (0 : Int) ≤ (0 : Int) ∧ (0 : Int) ≤ (5 : Int) := t11_25
              show Aj γ mX8_isUnder d 0 0 Post 14 [(3, vI 2), (2, vI 0), (0, vI 4), (1, vI o)] [vI 1] (mk h τ)
              refine a_if_eq (tgt := 36) dX8_isUnder_14 (by decide) (fun c => absurd c (by decide)) (fun _ => ?_)
              refine a_iload_n (j := 1) dX8_isUnder_17 rfl rfl ?_
              refine a_iload_n (j := 3) dX8_isUnder_18 rfl rfl ?_
              refine a_icmp_ne (tgt := 24) dX8_isUnder_19 (by decide) (fun c19_26 => ?_) (fun c19_26 => ?_)
              · refine a_above dX8_isUnder_24 ab_w ?_
                refine a_iload_n (j := 1) dX8_isUnder_27 rfl rfl ?_
                refine b_ldA (z := (-1)) 0 dX8_isUnder_28 rfl (by decide) (by decide +kernel) ?_
                refine a_istore_n (lv' := [(2, vI (-1)), (3, vI 2), (0, vI 4), (1, vI o)]) dX8_isUnder_29 rfl (by decide) rfl ?_
                refine a_iinc (j := 1) (z' := 3) (lv' := [(3, vI 3), (2, vI (-1)), (0, vI 4), (1, vI o)]) dX8_isUnder_30 rfl (w_ok (by omega) (by omega)) (by decide) rfl ?_
                refine a_goto (tgt := 4) dX8_isUnder_33 (by decide) ?_
                refine a_iload_n (j := 0) dX8_isUnder_4 rfl rfl ?_
                refine a_bipush dX8_isUnder_5 ⟨by decide, by decide, by decide⟩ ?_
                refine a_icmp_ge (tgt := 36) dX8_isUnder_7 (by decide) (fun c => absurd c (by decide)) (fun _ => ?_)
                refine a_iload_n (j := 1) dX8_isUnder_10 rfl rfl ?_
                refine a_callS (d' := d - 1) (mc' := 0) (ms' := 0) (mc1 := 0) (ms1 := 0) (st := []) [vI (-1)] dX8_isUnder_11 mwX8_isKind lkX8_93 rfl (Nat.le_of_ble_eq_true rfl) (by omega) rfl rfl (c_X8_isKind  (by omega)    (fun t11_27 => ?_) (fun t11_27 => ?_))
                · exact absurd (show (0 : Int) ≤ (-1 : Int) ∧ (-1 : Int) ≤ (5 : Int) from t11_27) (by omega)
                · have t11_27 : ¬ ((0 : Int) ≤ (-1 : Int) ∧ (-1 : Int) ≤ (5 : Int)) := t11_27
                  show Aj γ mX8_isUnder d 0 0 Post 14 [(3, vI 3), (2, vI (-1)), (0, vI 4), (1, vI o)] [vI 0] (mk h τ)
                  refine a_if_eq (tgt := 36) dX8_isUnder_14 (by decide) (fun _ => ?_) (fun c => absurd c (by decide))
                  refine a_iconst dX8_isUnder_36 ⟨by decide, by decide⟩ ?_
                  exact a_zret dX8_isUnder_37 rfl (by first | exact Or.inl rfl | exact Or.inr rfl | omega) (kF (by omega))
              · refine a_iconst dX8_isUnder_22 ⟨by decide, by decide⟩ ?_
                exact a_zret dX8_isUnder_23 rfl (by first | exact Or.inl rfl | exact Or.inr rfl | omega) (kT (by omega))
            · exact absurd (show ¬ ((0 : Int) ≤ (0 : Int) ∧ (0 : Int) ≤ (5 : Int)) from t11_25) (by omega)
          · refine a_iconst dX8_isUnder_22 ⟨by decide, by decide⟩ ?_
            exact a_zret dX8_isUnder_23 rfl (by first | exact Or.inl rfl | exact Or.inr rfl | omega) (kT (by omega))
        · exact absurd (show ¬ ((0 : Int) ≤ (2 : Int) ∧ (2 : Int) ≤ (5 : Int)) from t11_23) (by omega)
      · refine a_iconst dX8_isUnder_22 ⟨by decide, by decide⟩ ?_
        exact a_zret dX8_isUnder_23 rfl (by first | exact Or.inl rfl | exact Or.inr rfl | omega) (kT (by omega))
    · exact absurd (show ¬ ((0 : Int) ≤ (4 : Int) ∧ (4 : Int) ≤ (5 : Int)) from t11_21) (by omega)
  · show Aj γ mX8_isUnder d 0 0 Post 0 [(0, vI 5), (1, vI o)] [] (mk h τ)
    refine a_iload_n (j := 0) dX8_isUnder_0 rfl rfl ?_
    refine a_istore_n (lv' := [(2, vI 5), (0, vI 5), (1, vI o)]) dX8_isUnder_1 rfl (by decide) rfl ?_
    refine a_iconst dX8_isUnder_2 ⟨by decide, by decide⟩ ?_
    refine a_istore_n (lv' := [(3, vI 0), (2, vI 5), (0, vI 5), (1, vI o)]) dX8_isUnder_3 rfl (by decide) rfl ?_
    refine a_iload_n (j := 0) dX8_isUnder_4 rfl rfl ?_
    refine a_bipush dX8_isUnder_5 ⟨by decide, by decide, by decide⟩ ?_
    refine a_icmp_ge (tgt := 36) dX8_isUnder_7 (by decide) (fun c => absurd c (by decide)) (fun _ => ?_)
    refine a_iload_n (j := 1) dX8_isUnder_10 rfl rfl ?_
    refine a_callS (d' := d - 1) (mc' := 0) (ms' := 0) (mc1 := 0) (ms1 := 0) (st := []) [vI 5] dX8_isUnder_11 mwX8_isKind lkX8_93 rfl (Nat.le_of_ble_eq_true rfl) (by omega) rfl rfl (c_X8_isKind  (by omega)    (fun t11_28 => ?_) (fun t11_28 => ?_))
    · have t11_28 : (0 : Int) ≤ (5 : Int) ∧ (5 : Int) ≤ (5 : Int) := t11_28
      show Aj γ mX8_isUnder d 0 0 Post 14 [(3, vI 0), (2, vI 5), (0, vI 5), (1, vI o)] [vI 1] (mk h τ)
      refine a_if_eq (tgt := 36) dX8_isUnder_14 (by decide) (fun c => absurd c (by decide)) (fun _ => ?_)
      refine a_iload_n (j := 1) dX8_isUnder_17 rfl rfl ?_
      refine a_iload_n (j := 3) dX8_isUnder_18 rfl rfl ?_
      refine a_icmp_ne (tgt := 24) dX8_isUnder_19 (by decide) (fun c19_29 => ?_) (fun c19_29 => ?_)
      · refine a_above dX8_isUnder_24 ab_w ?_
        refine a_iload_n (j := 1) dX8_isUnder_27 rfl rfl ?_
        refine b_ldA (z := 0) 5 dX8_isUnder_28 rfl (by decide) (by decide +kernel) ?_
        refine a_istore_n (lv' := [(2, vI 0), (3, vI 0), (0, vI 5), (1, vI o)]) dX8_isUnder_29 rfl (by decide) rfl ?_
        refine a_iinc (j := 1) (z' := 1) (lv' := [(3, vI 1), (2, vI 0), (0, vI 5), (1, vI o)]) dX8_isUnder_30 rfl (w_ok (by omega) (by omega)) (by decide) rfl ?_
        refine a_goto (tgt := 4) dX8_isUnder_33 (by decide) ?_
        refine a_iload_n (j := 0) dX8_isUnder_4 rfl rfl ?_
        refine a_bipush dX8_isUnder_5 ⟨by decide, by decide, by decide⟩ ?_
        refine a_icmp_ge (tgt := 36) dX8_isUnder_7 (by decide) (fun c => absurd c (by decide)) (fun _ => ?_)
        refine a_iload_n (j := 1) dX8_isUnder_10 rfl rfl ?_
        refine a_callS (d' := d - 1) (mc' := 0) (ms' := 0) (mc1 := 0) (ms1 := 0) (st := []) [vI 0] dX8_isUnder_11 mwX8_isKind lkX8_93 rfl (Nat.le_of_ble_eq_true rfl) (by omega) rfl rfl (c_X8_isKind  (by omega)    (fun t11_30 => ?_) (fun t11_30 => ?_))
        · have t11_30 : (0 : Int) ≤ (0 : Int) ∧ (0 : Int) ≤ (5 : Int) := t11_30
          show Aj γ mX8_isUnder d 0 0 Post 14 [(3, vI 1), (2, vI 0), (0, vI 5), (1, vI o)] [vI 1] (mk h τ)
          refine a_if_eq (tgt := 36) dX8_isUnder_14 (by decide) (fun c => absurd c (by decide)) (fun _ => ?_)
          refine a_iload_n (j := 1) dX8_isUnder_17 rfl rfl ?_
          refine a_iload_n (j := 3) dX8_isUnder_18 rfl rfl ?_
          refine a_icmp_ne (tgt := 24) dX8_isUnder_19 (by decide) (fun c19_31 => ?_) (fun c19_31 => ?_)
          · refine a_above dX8_isUnder_24 ab_w ?_
            refine a_iload_n (j := 1) dX8_isUnder_27 rfl rfl ?_
            refine b_ldA (z := (-1)) 0 dX8_isUnder_28 rfl (by decide) (by decide +kernel) ?_
            refine a_istore_n (lv' := [(2, vI (-1)), (3, vI 1), (0, vI 5), (1, vI o)]) dX8_isUnder_29 rfl (by decide) rfl ?_
            refine a_iinc (j := 1) (z' := 2) (lv' := [(3, vI 2), (2, vI (-1)), (0, vI 5), (1, vI o)]) dX8_isUnder_30 rfl (w_ok (by omega) (by omega)) (by decide) rfl ?_
            refine a_goto (tgt := 4) dX8_isUnder_33 (by decide) ?_
            refine a_iload_n (j := 0) dX8_isUnder_4 rfl rfl ?_
            refine a_bipush dX8_isUnder_5 ⟨by decide, by decide, by decide⟩ ?_
            refine a_icmp_ge (tgt := 36) dX8_isUnder_7 (by decide) (fun c => absurd c (by decide)) (fun _ => ?_)
            refine a_iload_n (j := 1) dX8_isUnder_10 rfl rfl ?_
            refine a_callS (d' := d - 1) (mc' := 0) (ms' := 0) (mc1 := 0) (ms1 := 0) (st := []) [vI (-1)] dX8_isUnder_11 mwX8_isKind lkX8_93 rfl (Nat.le_of_ble_eq_true rfl) (by omega) rfl rfl (c_X8_isKind  (by omega)    (fun t11_32 => ?_) (fun t11_32 => ?_))
            · exact absurd (show (0 : Int) ≤ (-1 : Int) ∧ (-1 : Int) ≤ (5 : Int) from t11_32) (by omega)
            · have t11_32 : ¬ ((0 : Int) ≤ (-1 : Int) ∧ (-1 : Int) ≤ (5 : Int)) := t11_32
              show Aj γ mX8_isUnder d 0 0 Post 14 [(3, vI 2), (2, vI (-1)), (0, vI 5), (1, vI o)] [vI 0] (mk h τ)
              refine a_if_eq (tgt := 36) dX8_isUnder_14 (by decide) (fun _ => ?_) (fun c => absurd c (by decide))
              refine a_iconst dX8_isUnder_36 ⟨by decide, by decide⟩ ?_
              exact a_zret dX8_isUnder_37 rfl (by first | exact Or.inl rfl | exact Or.inr rfl | omega) (kF (by omega))
          · refine a_iconst dX8_isUnder_22 ⟨by decide, by decide⟩ ?_
            exact a_zret dX8_isUnder_23 rfl (by first | exact Or.inl rfl | exact Or.inr rfl | omega) (kT (by omega))
        · exact absurd (show ¬ ((0 : Int) ≤ (0 : Int) ∧ (0 : Int) ≤ (5 : Int)) from t11_30) (by omega)
      · refine a_iconst dX8_isUnder_22 ⟨by decide, by decide⟩ ?_
        exact a_zret dX8_isUnder_23 rfl (by first | exact Or.inl rfl | exact Or.inr rfl | omega) (kT (by omega))
    · exact absurd (show ¬ ((0 : Int) ≤ (5 : Int) ∧ (5 : Int) ≤ (5 : Int)) from t11_28) (by omega)
