/-- a fresh cell's numbers -/
def dfl (κ : Nat) : Nat → Int := fun j => if et κ j = 2 then -1 else 0
theorem okc_dfl (n κ N : Nat) : okc n (κ, N, dfl κ) := by
  intro j
  show okv n (et κ j, if et κ j = 2 then -1 else 0)
  generalize et κ j = t
  match t with
  | 0 => exact in_0
  | 1 => exact ⟨by decide, by decide⟩
  | 2 => show (if 2 = 2 then (-1 : Int) else 0) < _; rw [if_pos rfl]; omega
  | _ + 3 => trivial
def dval (t : Nat) : Value := match t with
  | 0 => .int 0
  | 1 => .long 0
  | _ => .null
theorem cv_dfl (γ : GT) (ρ : Nat → Nat) {κ j : Nat} (h : et κ j ≤ 2) : cv γ ρ (et κ j, dfl κ j) = dval (et κ j) := by
  unfold dfl
  generalize et κ j = t at h ⊢
  match t, h with
  | 0, _ => rfl
  | 1, _ => rfl
  | 2, _ => rfl
def NewW (own : String) (κ N idx : Nat) : Prop := ∃ (Cn : String) (T : u_T) (ty : Nat → FieldType), vwCl[κ]? = some (Cn, T, N) ∧ κ < 10 ∧ (∀ w ∈ u_ws Cn T N, w ∈ lw_tbl ∧ goodWord w = true) ∧ (∀ k, k < N → parseFieldDescriptor (T k).2.2.1 = some (ty k)) ∧ (∀ j, j < N → defaultValue (ty j) = dval (et κ j) ∧ et κ j ≤ 2) ∧ Cond.classLink own idx Cn ∈ lw_tbl ∧ Cond.instantiable Cn N ∈ lw_tbl ∧ Cond.initialized Cn ∈ lw_tbl
section AR5
variable {γ : GT} {Y : MT} {d mc ms pc : Nat} {Post : Option AV → List AC → Prop} {lv : List (Nat × AV)} {st : List AV} {σ : List AC}
theorem Dy.push {nL n0 a : Nat} {ρ0 ρ : Nat → Nat} {s : State} {H H1 : Heap} {locs locs1 : List Loc} {ls : Array Slot} {st' : List AV} {c : AC} (h : Dy γ nL n0 ρ0 ρ lv st σ s H locs ls) (h' : (∀ v ∈ st, okv σ.length v) → ∀ v ∈ st', okv σ.length v) (hc : okc (σ.length + 1) c) (hcc : ∀ ρ' : Nat → Nat, conc γ ρ' c = conc γ ρ c) (hP : va_P (g_D γ) vwCl (wl γ ρ σ ++ [(a, conc γ ρ c)]) H1) (hD : va_D (g_A γ) (wl γ ρ σ ++ [(a, conc γ ρ c)])) (hS : va_S (g_A γ) s.heap H1 locs1) :
    Dy γ nL n0 ρ0 (fun k => if k = σ.length then a else ρ k) lv (vA σ.length :: st') (σ ++ [c]) s H1 locs1 ls ∧ (vA σ.length :: st').map (cv γ (fun k => if k = σ.length then a else ρ k)) = .ref a :: st'.map (cv γ ρ) := by
  obtain ⟨h1, h2, h3, h4, h5, h6, h7⟩ := h
  have he : ∀ k, k < σ.length → (fun k => if k = σ.length then a else ρ k) k = ρ k := fun k hk => if_neg (by omega)
  have hw : wl γ (fun k => if k = σ.length then a else ρ k) (σ ++ [c]) = wl γ ρ σ ++ [(a, conc γ ρ c)] := by
    rw [wl_push (ρ := ρ) h2.2.2 he, hcc]
    simp
  have h5' := h' h5
  refine ⟨⟨hS, ⟨by rw [hw]; exact hP, by rw [hw]; exact hD, okS_push h2.2.2 hc⟩, ?_, ?_, ?_, ?_, ?_⟩, ?_⟩
  · rw [List.length_append]; omega
  · intro k hk; rw [he k (by omega)]; exact h4 k hk
  · rw [List.length_append, List.length_singleton]
    exact ok_cons (show ((σ.length : Nat) : Int) < ((σ.length + 1 : Nat) : Int) by omega) fun v hv => okv_mono (h5' v hv) (by omega)
  · rw [List.length_append, List.length_singleton]
    exact fun q hq => okv_mono (h6 q hq) (by omega)
  · rw [lvc_ext h6 he]; exact h7
  · rw [List.map_cons, cv_A, stc_ext h5' he]; simp
theorem a_new {κ N idx mc1 ms1 : Nat} (hd : decode Y.2.1 pc = .ok (.new idx, 3)) (hw : NewW Y.1.cls κ N idx) (h1 : 1 + mc1 = mc) (h2 : N + ms1 = ms) (kk : Aj γ Y d mc1 ms1 Post (pc + 3) lv (vA σ.length :: st) (σ ++ [(κ, N, dfl κ)])) : Aj γ Y d mc ms Post pc lv st σ := by
  intro p e R s m args below meth c H locs cells slots n0 ρ0 ρ ls F D
  obtain ⟨Cn, T, ty, e1, e2, e3, e4, e5, e6, e7, e8⟩ := hw
  have hr := F.room
  refine va_new (D := g_D γ) (ci := κ) (fs := (List.range N).map fun j => cv γ ρ (et κ j, dfl κ j)) F.1 F.2.1 (fun w hw => F.wd (e3 w hw).1 (e3 w hw).2) (fun _ h => h) ty e4 F.own (F.wd e6 rfl) (F.wd e7 rfl) (F.wd e8 rfl) F.ks.1 D.2.1.1 D.2.1.2.1 D.1 (fun q h => Nat.le_trans F.bs h) e1 ?_ (by omega) (by omega) hd fun q H1 hP hD hS => ?_
  · intro j hj
    unfold vp_V
    rw [(e5 j hj).1, ← cv_dfl γ ρ (e5 j hj).2]
    simp [hj]
  · rw [← conc_o e2] at hP hD
    obtain ⟨D2, hm⟩ := D.push (c := (κ, N, dfl κ)) (fun q => q) (okc_dfl _ κ N) (fun ρ' => conc_ext (n := 0) (okc_dfl 0 κ N) (fun k hk => absurd hk (Nat.not_lt_zero k))) hP hD hS
    have h := kk p e R s m args below meth c H1 locs (cells + 1) (slots + N) n0 ρ0 _ ls (F.use h1 h2) D2
    rw [hm] at h
    rw [show cells + mc = cells + 1 + mc1 by omega, show slots + ms = slots + N + ms1 by omega]
    exact h
theorem a_newarrayI {N mc1 ms1 : Nat} {z : Int} (hd : decode Y.2.1 pc = .ok (.newarray .int, 2)) (hw : Cond.arrayClass .int ∈ lw_tbl) (hz : z = (N : Int)) (hN : N ≤ 60000000) (h1 : 1 + mc1 = mc) (h2 : N + ms1 = ms) (kk : Aj γ Y d mc1 ms1 Post (pc + 2) lv (vA σ.length :: st) (σ ++ [(12, N, dfl 12)])) : Aj γ Y d mc ms Post pc lv (vI z :: st) σ := by
  intro p e R s m args below meth c H locs cells slots n0 ρ0 ρ ls F D
  have hr := F.room
  have iz : inI z := ok_hd D.ok
  have hzt : (Int32.ofInt z).toInt = (N : Int) := by rw [i32_t iz, hz]
  refine va_newa (D := g_D γ) (atype := .int) (ty := .int) (a0 := (N, .inl fun j => Int32.ofInt (dfl 12 j))) F.1 F.2.1 (F.wd (w := Cond.arrayClass .int) hw rfl) rfl F.ks.1 D.2.1.1 D.2.1.2.1 D.1 (fun q h => Nat.le_trans F.bs h) (N' := N) ?_ ?_ ?_ ?_ (by omega) (by omega) hd fun q cA H1 hK hP hD hS => ?_
  · intro cA
    unfold vp_cell
    congr 1
  · rw [Int32.lt_iff_toInt_lt, hzt, Int32.toInt_zero]; omega
  · show (Int32.ofInt z).toInt.toNat = N
    rw [hzt]; omega
  · show N * componentBytes .int ≤ 536870912
    have : componentBytes .int ≤ 8 := by decide
    have := Nat.mul_le_mul_left N this
    omega
  · have hcA : cA = g_dA γ 12 := by
      have k1 := (hK.2 (tysL γ).length (cA, .int) (by simp)).2
      have k2 := (F.ks.1.2 2 (g_dA γ 12, .int) rfl).2
      exact Option.some.inj (k1.symm.trans k2)
    subst hcA
    obtain ⟨D2, hm⟩ := D.push (c := (12, N, dfl 12)) ok_tl (okc_dfl _ 12 N) (fun ρ' => conc_ext (n := 0) (okc_dfl 0 12 N) (fun k hk => absurd hk (Nat.not_lt_zero k))) hP hD hS
    have h := kk p e R s m args below meth c H1 locs (cells + 1) (slots + N) n0 ρ0 _ ls (F.use h1 h2) D2
    rw [hm] at h
    rw [show cells + mc = cells + 1 + mc1 by omega, show slots + ms = slots + N + ms1 by omega]
    exact h
theorem a_newarrayB {N mc1 ms1 : Nat} {z : Int} (hd : decode Y.2.1 pc = .ok (.newarray .byte, 2)) (hw : Cond.arrayClass .byte ∈ lw_tbl) (hz : z = (N : Int)) (hN : N ≤ 60000000) (h1 : 1 + mc1 = mc) (h2 : N + ms1 = ms) (kk : Aj γ Y d mc1 ms1 Post (pc + 2) lv (vA σ.length :: st) (σ ++ [(10, N, dfl 10)])) : Aj γ Y d mc ms Post pc lv (vI z :: st) σ := by
  intro p e R s m args below meth c H locs cells slots n0 ρ0 ρ ls F D
  have hr := F.room
  have iz : inI z := ok_hd D.ok
  have hzt : (Int32.ofInt z).toInt = (N : Int) := by rw [i32_t iz, hz]
  refine va_newa (D := g_D γ) (atype := .byte) (ty := .byte) (a0 := (N, .inl fun j => Int32.ofInt (dfl 10 j))) F.1 F.2.1 (F.wd (w := Cond.arrayClass .byte) hw rfl) rfl F.ks.1 D.2.1.1 D.2.1.2.1 D.1 (fun q h => Nat.le_trans F.bs h) (N' := N) ?_ ?_ ?_ ?_ (by omega) (by omega) hd fun q cA H1 hK hP hD hS => ?_
  · intro cA
    unfold vp_cell
    congr 1
  · rw [Int32.lt_iff_toInt_lt, hzt, Int32.toInt_zero]; omega
  · show (Int32.ofInt z).toInt.toNat = N
    rw [hzt]; omega
  · show N * componentBytes .byte ≤ 536870912
    have : componentBytes .byte ≤ 8 := by decide
    have := Nat.mul_le_mul_left N this
    omega
  · have hcA : cA = g_dA γ 10 := by
      have k1 := (hK.2 (tysL γ).length (cA, .byte) (by simp)).2
      have k2 := (F.ks.1.2 0 (g_dA γ 10, .byte) rfl).2
      exact Option.some.inj (k1.symm.trans k2)
    subst hcA
    obtain ⟨D2, hm⟩ := D.push (c := (10, N, dfl 10)) ok_tl (okc_dfl _ 10 N) (fun ρ' => conc_ext (n := 0) (okc_dfl 0 10 N) (fun k hk => absurd hk (Nat.not_lt_zero k))) hP hD hS
    have h := kk p e R s m args below meth c H1 locs (cells + 1) (slots + N) n0 ρ0 _ ls (F.use h1 h2) D2
    rw [hm] at h
    rw [show cells + mc = cells + 1 + mc1 by omega, show slots + ms = slots + N + ms1 by omega]
    exact h
theorem a_newarrayC {N mc1 ms1 : Nat} {z : Int} (hd : decode Y.2.1 pc = .ok (.newarray .char, 2)) (hw : Cond.arrayClass .char ∈ lw_tbl) (hz : z = (N : Int)) (hN : N ≤ 60000000) (h1 : 1 + mc1 = mc) (h2 : N + ms1 = ms) (kk : Aj γ Y d mc1 ms1 Post (pc + 2) lv (vA σ.length :: st) (σ ++ [(11, N, dfl 11)])) : Aj γ Y d mc ms Post pc lv (vI z :: st) σ := by
  intro p e R s m args below meth c H locs cells slots n0 ρ0 ρ ls F D
  have hr := F.room
  have iz : inI z := ok_hd D.ok
  have hzt : (Int32.ofInt z).toInt = (N : Int) := by rw [i32_t iz, hz]
  refine va_newa (D := g_D γ) (atype := .char) (ty := .char) (a0 := (N, .inl fun j => Int32.ofInt (dfl 11 j))) F.1 F.2.1 (F.wd (w := Cond.arrayClass .char) hw rfl) rfl F.ks.1 D.2.1.1 D.2.1.2.1 D.1 (fun q h => Nat.le_trans F.bs h) (N' := N) ?_ ?_ ?_ ?_ (by omega) (by omega) hd fun q cA H1 hK hP hD hS => ?_
  · intro cA
    unfold vp_cell
    congr 1
  · rw [Int32.lt_iff_toInt_lt, hzt, Int32.toInt_zero]; omega
  · show (Int32.ofInt z).toInt.toNat = N
    rw [hzt]; omega
  · show N * componentBytes .char ≤ 536870912
    have : componentBytes .char ≤ 8 := by decide
    have := Nat.mul_le_mul_left N this
    omega
  · have hcA : cA = g_dA γ 11 := by
      have k1 := (hK.2 (tysL γ).length (cA, .char) (by simp)).2
      have k2 := (F.ks.1.2 1 (g_dA γ 11, .char) rfl).2
      exact Option.some.inj (k1.symm.trans k2)
    subst hcA
    obtain ⟨D2, hm⟩ := D.push (c := (11, N, dfl 11)) ok_tl (okc_dfl _ 11 N) (fun ρ' => conc_ext (n := 0) (okc_dfl 0 11 N) (fun k hk => absurd hk (Nat.not_lt_zero k))) hP hD hS
    have h := kk p e R s m args below meth c H1 locs (cells + 1) (slots + N) n0 ρ0 _ ls (F.use h1 h2) D2
    rw [hm] at h
    rw [show cells + mc = cells + 1 + mc1 by omega, show slots + ms = slots + N + ms1 by omega]
    exact h
theorem a_newarrayZ {N mc1 ms1 : Nat} {z : Int} (hd : decode Y.2.1 pc = .ok (.newarray .boolean, 2)) (hw : Cond.arrayClass .boolean ∈ lw_tbl) (hz : z = (N : Int)) (hN : N ≤ 60000000) (h1 : 1 + mc1 = mc) (h2 : N + ms1 = ms) (kk : Aj γ Y d mc1 ms1 Post (pc + 2) lv (vA σ.length :: st) (σ ++ [(14, N, dfl 14)])) : Aj γ Y d mc ms Post pc lv (vI z :: st) σ := by
  intro p e R s m args below meth c H locs cells slots n0 ρ0 ρ ls F D
  have hr := F.room
  have iz : inI z := ok_hd D.ok
  have hzt : (Int32.ofInt z).toInt = (N : Int) := by rw [i32_t iz, hz]
  refine va_newa (D := g_D γ) (atype := .boolean) (ty := .boolean) (a0 := (N, .inl fun j => Int32.ofInt (dfl 14 j))) F.1 F.2.1 (F.wd (w := Cond.arrayClass .boolean) hw rfl) rfl F.ks.1 D.2.1.1 D.2.1.2.1 D.1 (fun q h => Nat.le_trans F.bs h) (N' := N) ?_ ?_ ?_ ?_ (by omega) (by omega) hd fun q cA H1 hK hP hD hS => ?_
  · intro cA
    unfold vp_cell
    congr 1
  · rw [Int32.lt_iff_toInt_lt, hzt, Int32.toInt_zero]; omega
  · show (Int32.ofInt z).toInt.toNat = N
    rw [hzt]; omega
  · show N * componentBytes .boolean ≤ 536870912
    have : componentBytes .boolean ≤ 8 := by decide
    have := Nat.mul_le_mul_left N this
    omega
  · have hcA : cA = g_dA γ 14 := by
      have k1 := (hK.2 (tysL γ).length (cA, .boolean) (by simp)).2
      have k2 := (F.ks.1.2 4 (g_dA γ 14, .boolean) rfl).2
      exact Option.some.inj (k1.symm.trans k2)
    subst hcA
    obtain ⟨D2, hm⟩ := D.push (c := (14, N, dfl 14)) ok_tl (okc_dfl _ 14 N) (fun ρ' => conc_ext (n := 0) (okc_dfl 0 14 N) (fun k hk => absurd hk (Nat.not_lt_zero k))) hP hD hS
    have h := kk p e R s m args below meth c H1 locs (cells + 1) (slots + N) n0 ρ0 _ ls (F.use h1 h2) D2
    rw [hm] at h
    rw [show cells + mc = cells + 1 + mc1 by omega, show slots + ms = slots + N + ms1 by omega]
    exact h
theorem a_newarrayJ {N mc1 ms1 : Nat} {z : Int} (hd : decode Y.2.1 pc = .ok (.newarray .long, 2)) (hw : Cond.arrayClass .long ∈ lw_tbl) (hz : z = (N : Int)) (hN : N ≤ 60000000) (h1 : 1 + mc1 = mc) (h2 : N + ms1 = ms) (kk : Aj γ Y d mc1 ms1 Post (pc + 2) lv (vA σ.length :: st) (σ ++ [(13, N, dfl 13)])) : Aj γ Y d mc ms Post pc lv (vI z :: st) σ := by
  intro p e R s m args below meth c H locs cells slots n0 ρ0 ρ ls F D
  have hr := F.room
  have iz : inI z := ok_hd D.ok
  have hzt : (Int32.ofInt z).toInt = (N : Int) := by rw [i32_t iz, hz]
  refine va_newa (D := g_D γ) (atype := .long) (ty := .long) (a0 := (N, .inr (.inl fun j => Int64.ofInt (dfl 13 j)))) F.1 F.2.1 (F.wd (w := Cond.arrayClass .long) hw rfl) rfl F.ks.1 D.2.1.1 D.2.1.2.1 D.1 (fun q h => Nat.le_trans F.bs h) (N' := N) ?_ ?_ ?_ ?_ (by omega) (by omega) hd fun q cA H1 hK hP hD hS => ?_
  · intro cA
    unfold vp_cell
    congr 1
  · rw [Int32.lt_iff_toInt_lt, hzt, Int32.toInt_zero]; omega
  · show (Int32.ofInt z).toInt.toNat = N
    rw [hzt]; omega
  · show N * componentBytes .long ≤ 536870912
    have : componentBytes .long ≤ 8 := by decide
    have := Nat.mul_le_mul_left N this
    omega
  · have hcA : cA = g_dA γ 13 := by
      have k1 := (hK.2 (tysL γ).length (cA, .long) (by simp)).2
      have k2 := (F.ks.1.2 3 (g_dA γ 13, .long) rfl).2
      exact Option.some.inj (k1.symm.trans k2)
    subst hcA
    obtain ⟨D2, hm⟩ := D.push (c := (13, N, dfl 13)) ok_tl (okc_dfl _ 13 N) (fun ρ' => conc_ext (n := 0) (okc_dfl 0 13 N) (fun k hk => absurd hk (Nat.not_lt_zero k))) hP hD hS
    have h := kk p e R s m args below meth c H1 locs (cells + 1) (slots + N) n0 ρ0 _ ls (F.use h1 h2) D2
    rw [hm] at h
    rw [show cells + mc = cells + 1 + mc1 by omega, show slots + ms = slots + N + ms1 by omega]
    exact h
theorem a_anewarray {κ N idx mc1 ms1 : Nat} {z : Int} {Cn : String} (hd : decode Y.2.1 pc = .ok (.anewarray idx, 3)) (hκ : 15 ≤ κ ∧ Cn ∈ [RX1, RX2, RX4, RX6] ∧ ∀ γ : GT, (tysL γ)[κ - 10]? = some (g_dA γ κ, .object Cn)) (hw : Cond.classLink Y.1.cls idx Cn ∈ lw_tbl) (hz : z = (N : Int)) (hN : N ≤ 60000000) (h1 : 1 + mc1 = mc) (h2 : N + ms1 = ms) (kk : Aj γ Y d mc1 ms1 Post (pc + 3) lv (vA σ.length :: st) (σ ++ [(κ, N, dfl κ)])) : Aj γ Y d mc ms Post pc lv (vI z :: st) σ := by
  intro p e R s m args below meth c H locs cells slots n0 ρ0 ρ ls F D
  have hr := F.room
  have iz : inI z := ok_hd D.ok
  have hzt : (Int32.ofInt z).toInt = (N : Int) := by rw [i32_t iz, hz]
  refine va_newq (D := g_D γ) F.1 F.2.1 F.own (F.wd hw rfl) (F.ks.2.2.1 Cn hκ.2.1) F.ks.1 D.2.1.1 D.2.1.2.1 D.1 (fun q h => Nat.le_trans F.bs h) (N' := N) ?_ ?_ ?_ (by omega) (by omega) hd fun q cA H1 hK hP hD hS => ?_
  · rw [Int32.lt_iff_toInt_lt, hzt, Int32.toInt_zero]; omega
  · show (Int32.ofInt z).toInt.toNat = N
    rw [hzt]; omega
  · omega
  · have hcA : cA = g_dA γ κ := by
      obtain ⟨_, _, _, _, _, k1⟩ := (hK.2 (tysL γ).length (cA, .object Cn) (by simp)).2
      obtain ⟨_, _, _, _, _, k2⟩ := (F.ks.1.2 (κ - 10) (g_dA γ κ, .object Cn) (hκ.2.2 γ)).2
      exact Option.some.inj (k1.symm.trans k2)
    subst hcA
    have hq : conc γ ρ (κ, N, dfl κ) = .inl (g_dA γ κ, N, .inr (.inr (.inr (.inr fun _ => none)))) := by
      rw [conc_q hκ.1]
      have : (fun j => if dfl κ j < 0 then none else some (ρ (dfl κ j).toNat)) = fun _ => none := by
        funext j
        have : dfl κ j = -1 := by unfold dfl; rw [et_q hκ.1, if_pos rfl]
        rw [this]; rfl
      rw [this]
    rw [← hq] at hP hD
    obtain ⟨D2, hm⟩ := D.push (c := (κ, N, dfl κ)) ok_tl (okc_dfl _ κ N) (fun ρ' => conc_ext (n := 0) (okc_dfl 0 κ N) (fun k hk => absurd hk (Nat.not_lt_zero k))) hP hD hS
    have h := kk p e R s m args below meth c H1 locs (cells + 1) (slots + N) n0 ρ0 _ ls (F.use h1 h2) D2
    rw [hm] at h
    rw [show cells + mc = cells + 1 + mc1 by omega, show slots + ms = slots + N + ms1 by omega]
    exact h
theorem conc_a {ρ : Nat → Nat} {κ n : Nat} {f : Nat → Int} (h : 10 ≤ κ) : conc γ ρ (κ, n, f) = .inl (g_dA γ κ, n, carr ρ κ f) := by
  unfold conc
  rw [if_neg (by simp only; omega)]
theorem a_alen {a κ n : Nat} {f : Nat → Int} (hd : decode Y.2.1 pc = .ok (.arraylength, 1)) (ha : σ[a]? = some (κ, n, f)) (hκ : 10 ≤ κ ∧ κ < 19) (hn : n < 2147483648) (k : Aj γ Y d mc ms Post (pc + 1) lv (vI (n : Int) :: st) σ) : Aj γ Y d mc ms Post pc lv (vA a :: st) σ := by
  intro p e R s m args below meth c H locs cells slots n0 ρ0 ρ ls F D
  obtain ⟨k1, k2⟩ := hκ
  have h := k p e R s m args below meth c H locs cells slots n0 ρ0 ρ ls F (D.stk fun q => ok_cons (v := vI (n : Int)) (⟨by omega, by omega⟩ : inI (n : Int)) (ok_tl q))
  rw [List.map_cons, cv_A]
  have ht : ∃ ty, (tysL γ)[κ - 10]? = some (g_dA γ κ, ty) := by
    have hc : κ = 10 ∨ κ = 11 ∨ κ = 12 ∨ κ = 13 ∨ κ = 14 ∨ κ = 15 ∨ κ = 16 ∨ κ = 17 ∨ κ = 18 := by omega
    rcases hc with rfl | rfl | rfl | rfl | rfl | rfl | rfl | rfl | rfl <;> exact ⟨_, rfl⟩
  obtain ⟨ty, ht⟩ := ht
  refine va_alen (D := g_D γ) (x := (n, carr ρ κ f)) F.1 F.2.1 F.ks.1 D.2.1.1 a (κ - 10) (by rw [wl_get ha, conc_a k1]) ht (v := Int32.ofInt (n : Int)) ?_ hd h
  exact (Int32.ofInt_eq_ofNat ..).symm
theorem Fx.zc {p : Program} {R : Room} {s : State} {m : MethodId} {args : Array Value} {meth : Method} {c : Code} {cells slots : Nat} (F : Fx γ Y d mc ms p R s m args meth c cells slots) : Zc γ s s.heap := F.ks.2.2.2
/-- the script -/
theorem a_sld {i : Int} (k : Nat) (hd : decode Y.2.1 pc = .ok (.iaload, 1)) (hi : i = (k : Int)) (hk : k < g_L γ) (kk : Aj γ Y d mc ms Post (pc + 1) lv (vI (g_x γ k).toInt :: st) σ) : Aj γ Y d mc ms Post pc lv (vI i :: vK 0 :: st) σ := by
  intro p e R s m args below meth c H locs cells slots n0 ρ0 ρ ls F D
  obtain ⟨h1, h2⟩ := i32_in (ok_hd D.ok : inI i) hi hk
  have h := kk p e R s m args below meth c H locs cells slots n0 ρ0 ρ ls F (D.stk fun q => ok_cons (v := vI (g_x γ k).toInt) (i32_rng _) (ok_tl (ok_tl q)))
  refine va_sld F.1 F.2.1 F.zc.1 (Nat.lt_of_lt_of_le F.zc.2.1 F.bs) (A := g_A γ) (Nat.not_le.mpr F.zc.2.1) D.1 h1 hd ?_
  rw [h2]
  rw [List.map_cons, show cv γ ρ (vI (g_x γ k).toInt) = .int (g_x γ k) from congrArg Value.int (i32_of _)] at h
  exact h
theorem a_slen (hd : decode Y.2.1 pc = .ok (.arraylength, 1)) (hL : g_L γ < 2147483648) (kk : Aj γ Y d mc ms Post (pc + 1) lv (vI (g_L γ : Int) :: st) σ) : Aj γ Y d mc ms Post pc lv (vK 0 :: st) σ := by
  intro p e R s m args below meth c H locs cells slots n0 ρ0 ρ ls F D
  have h := kk p e R s m args below meth c H locs cells slots n0 ρ0 ρ ls F (D.stk fun q => ok_cons (v := vI (g_L γ : Int)) (⟨by omega, by omega⟩ : inI (g_L γ : Int)) (ok_tl q))
  rw [List.map_cons, show cv γ ρ (vI (g_L γ : Int)) = .int (nI (g_L γ)) from congrArg Value.int (Int32.ofInt_eq_ofNat ..)] at h
  exact va_slen F.1 F.2.1 F.zc.1 (Nat.lt_of_lt_of_le F.zc.2.1 F.bs) (A := g_A γ) (Nat.not_le.mpr F.zc.2.1) D.1 hd h
/-- the table ABOVE -/
theorem a_above {idx : Nat} (hd : decode Y.2.1 pc = .ok (.getstatic idx, 3)) (hl : Cond.fieldLink Y.1.cls idx RX8 "ABOVE" "[I" ∈ lw_tbl) (kk : Aj γ Y d mc ms Post (pc + 3) lv (vK 1 :: st) σ) : Aj γ Y d mc ms Post pc lv st σ := by
  intro p e R s m args below meth c H locs cells slots n0 ρ0 ρ ls F D
  exact va_gets (A := g_A γ) F.1 F.2.1 F.zc.2.2.1 D.1 F.own (F.wd hl rfl) (fun _ h => h) hd (kk p e R s m args below meth c H locs cells slots n0 ρ0 ρ ls F (D.stk (ok_cons trivial)))
theorem a_ldA {i : Int} (k : Nat) (hd : decode Y.2.1 pc = .ok (.iaload, 1)) (hi : i = (k : Int)) (hk : k < 6) (kk : Aj γ Y d mc ms Post (pc + 1) lv (vI (abv.getD k 0).toInt :: st) σ) : Aj γ Y d mc ms Post pc lv (vI i :: vK 1 :: st) σ := by
  intro p e R s m args below meth c H locs cells slots n0 ρ0 ρ ls F D
  obtain ⟨h1, h2⟩ := i32_in (ok_hd D.ok : inI i) hi hk
  have h := kk p e R s m args below meth c H locs cells slots n0 ρ0 ρ ls F (D.stk fun q => ok_cons (v := vI (abv.getD k 0).toInt) (i32_rng _) (ok_tl (ok_tl q)))
  rw [List.map_cons, show cv γ ρ (vI (abv.getD k 0).toInt) = .int (abv.getD k 0) from congrArg Value.int (i32_of _)] at h
  exact va_ti (A := g_A γ) F.1 F.2.1 F.zc.2.2.2.1 D.1 h1 (v := .int (abv.getD k 0)) (by rw [h2]) hd h
/-- System.arraycopy of ints -/
def cpy (f g : Nat → Int) (sp dp n : Nat) : Nat → Int := fun k => if dp ≤ k ∧ k < dp + n then f (sp + (k - dp)) else g k
theorem a_copy {idx a b n0' n1 sp dp n : Nat} {f g : Nat → Int} {zs zd zn : Int} (hd : decode Y.2.1 pc = .ok (.invokestatic idx, 3)) (hl : Cond.methodLink Y.1.cls idx arraycopyName ∈ lw_tbl) (hw : Cond.native arraycopyName ∈ lw_tbl ∧ Cond.static arraycopyName ∈ lw_tbl ∧ Cond.initialized "java/lang/System" ∈ lw_tbl) (ha : σ[a]? = some (12, n0', f)) (hb : σ[b]? = some (12, n1, g)) (h1 : zs = (sp : Int)) (h2 : zd = (dp : Int)) (h3 : zn = (n : Int)) (h4 : sp + n ≤ n0') (h5 : dp + n ≤ n1) (hst : stw st ≤ 8) (hd' : 1 ≤ d) (k : Aj γ Y d mc ms Post (pc + 3) lv st (σ.set b (12, n1, cpy f g sp dp n))) : Aj γ Y d mc ms Post pc lv (vI zn :: vI zd :: vA b :: vI zs :: vA a :: st) σ := by
  intro p e R s m args below meth c H locs cells slots n0 ρ0 ρ ls F D
  have izn : inI zn := ok_hd D.ok
  have izd : inI zd := ok_hd (ok_tl D.ok)
  have izs : inI zs := ok_hd (ok_tl (ok_tl (ok_tl D.ok)))
  have t1 : (Int32.ofInt zs).toInt = (sp : Int) := by rw [i32_t izs, h1]
  have t2 : (Int32.ofInt zd).toInt = (dp : Int) := by rw [i32_t izd, h2]
  have t3 : (Int32.ofInt zn).toInt = (n : Int) := by rw [i32_t izn, h3]
  have c1 : (Int32.ofInt zs).toNatClampNeg = sp := by show (Int32.ofInt zs).toInt.toNat = sp; omega
  have c2 : (Int32.ofInt zd).toNatClampNeg = dp := by show (Int32.ofInt zd).toInt.toNat = dp; omega
  have c3 : (Int32.ofInt zn).toNatClampNeg = n := by show (Int32.ofInt zn).toInt.toNat = n; omega
  rw [List.map_cons, List.map_cons, List.map_cons, List.map_cons, List.map_cons, cv_A, cv_A]
  have hR := F.fr
  refine va_copyi (D := g_D γ) F.1 F.2.1 (by rw [F.ml]; exact D.2.2.2.2.2.2.1.symm) F.own (F.wd hl rfl) (F.wd hw.1 rfl) (F.wd hw.2.1 rfl) (F.wd hw.2.2 rfl) F.ks.1 D.2.1.1 D.2.1.2.1 D.1 a b 2 2 (wl_get ha) (wl_get hb) (ty := .int) rfl rfl rfl ?_ ?_ ?_ (by rw [c1, c3]; exact h4) (by rw [c2, c3]; exact h5) (fun i _ => rfl) (by omega) ?_ hd fun H1 locs1 hP hD hS => ?_
  · rw [Int32.lt_iff_toInt_lt, t1, Int32.toInt_zero]; omega
  · rw [Int32.lt_iff_toInt_lt, t2, Int32.toInt_zero]; omega
  · rw [Int32.lt_iff_toInt_lt, t3, Int32.toInt_zero]; omega
  · rw [stw_of]
    have : nativeFrameWords "java/lang/System" "arraycopy" 5 ≤ 40 := by decide +kernel
    omega
  · have hq : va_cpy (fun j => Int32.ofInt (f j)) (fun j => Int32.ofInt (g j)) sp dp n = fun j => Int32.ofInt (cpy f g sp dp n j) := by
      funext j
      unfold va_cpy cpy
      by_cases hj : dp ≤ j ∧ j < dp + n
      · rw [if_pos hj, if_pos hj]
      · rw [if_neg hj, if_neg hj]
    rw [c1, c2, c3, hq] at hP hD
    refine k p e R s m args below meth c H1 locs1 cells slots n0 ρ0 ρ ls F (D.set (c := (12, n1, cpy f g sp dp n)) (fun q => ok_tl (ok_tl (ok_tl (ok_tl (ok_tl q))))) ?_ hP hD hS)
    intro j
    show inI (cpy f g sp dp n j)
    unfold cpy
    by_cases hj : dp ≤ j ∧ j < dp + n
    · rw [if_pos hj]; exact D.2.1.2.2 a _ ha (sp + (j - dp))
    · rw [if_neg hj]; exact D.2.1.2.2 b _ hb j
end AR5
