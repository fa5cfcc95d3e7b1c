theorem nest_tab {w : Cond} (h : isNest w = true) : w.onTables = true := by
  cases w <;> first | rfl | (simp [isNest] at h)
theorem Ks.same {γ : GT} {u U : State} (hv : U.vm = u.vm) (hh : U.heap = u.heap) (h : Ks γ u) : Ks γ U := by
  obtain ⟨h1, h2, h3, h4⟩ := h
  have ha : u.vm.Alike U.vm := by rw [hv]; exact Vm.Alike.refl _
  exact ⟨h1.moved ha, fun w hw hn => va_Nw.same (nest_tab hn) hv.symm (h2 w hw hn), fun C hC => (h3 C hC).moved ha, by rw [hh]; exact h4.same hv⟩
theorem Nw_warm {w : Cond} (h : isNest w = true) {s U : State} (hW : s.WarmedH U.vm) (hZ : va_Nw w s) : va_Nw w U := by
  cases w <;> first | exact va_Nw.warmF hW hZ | exact va_Nw.warmM hW hZ | (simp [isNest] at h)
theorem Ks.warm {γ : GT} {s U : State} {H : Heap} {locs : List Loc} (hW : s.WarmedH U.vm) (hU : U.heap = H) (hS : va_S (g_A γ) s.heap H locs) (hb : g_b γ ≤ s.heap.size) (h : Ks γ s) : Ks γ U := by
  obtain ⟨h1, h2, h3, h4⟩ := h
  exact ⟨h1.moved hW.alike, fun w hw hn => Nw_warm hn hW (h2 w hw hn), fun C hC => (h3 C hC).moved hW.alike, by rw [hU]; exact (h4.kept hb hS.2.1).moved hW⟩
theorem good_cons {Y : MT} (h : Cond.code Y.1 Y.2.1 Y.2.2.1 Y.2.2.2 ∈ lw_tbl) : GoodIn gtb (Cond.code Y.1 Y.2.1 Y.2.2.1 Y.2.2.2 :: gtb) := by
  intro w hw
  rcases List.mem_cons.mp hw with rfl | hw
  · exact ⟨gtb_in h rfl, good_of_word rfl⟩
  · exact ⟨hw, good_of_word (List.mem_filter.mp hw).2⟩
def lva : Nat → List AV → List (Nat × AV)
  | _, [] => []
  | i, v :: l => (i, v) :: lva (if v.1 = 1 then i + 2 else i + 1) l
def awd : List AV → Nat
  | [] => 0
  | v :: l => (if v.1 = 1 then 2 else 1) + awd l
theorem lva_of (γ : GT) (ρ : Nat → Nat) : ∀ (as : List AV) (i : Nat), lv_args i (as.map (cv γ ρ)) = lvc γ ρ (lva i as)
  | [], _ => rfl
  | v :: l, i => by
    show (i, cv γ ρ v) :: lv_args (if (cv γ ρ v).category = 2 then i + 2 else i + 1) (l.map (cv γ ρ)) = (i, cv γ ρ v) :: lvc γ ρ (lva (if v.1 = 1 then i + 2 else i + 1) l)
    rw [cv_cat]
    by_cases h : v.1 = 1
    · simp only [h, if_true]; rw [lva_of γ ρ l]
    · simp only [h, if_false]; rw [lva_of γ ρ l]; rfl
theorem awd_of (γ : GT) (ρ : Nat → Nat) : ∀ as : List AV, (lg_sl (as.map (cv γ ρ))).length = awd as
  | [] => rfl
  | v :: l => by
    have ih := awd_of γ ρ l
    unfold lg_sl at ih ⊢
    rw [List.map_cons, List.flatMap_cons, List.length_append, ih, cv_cat]
    show _ = (if v.1 = 1 then 2 else 1) + awd l
    by_cases h : v.1 = 1
    · simp [h]
    · simp [h]
theorem lva_ok {n : Nat} : ∀ {as : List AV} {i : Nat}, (∀ v ∈ as, okv n v) → ∀ q ∈ lva i as, okv n q.2
  | [], _, _ => fun q hq => by cases hq
  | v :: l, i, h => fun q hq => by
    rcases List.mem_cons.mp hq with rfl | hq
    · exact ok_hd h
    · exact lva_ok (ok_tl h) q hq
def MtW (Y : MT) (n : Nat) : Prop := Cond.code Y.1 Y.2.1 Y.2.2.1 Y.2.2.2 ∈ lw_tbl ∧ Cond.initialized Y.1.cls ∈ lw_tbl ∧ (Y.1.cls ≠ "java/lang/invoke/MethodHandle" ∧ Y.1.cls ≠ "java/lang/invoke/VarHandle" ∧ (parseMethodDescriptor Y.1.desc).map (fun d => d.parameters.length) = some n) ∧ Y.2.2.1 ≤ 40
/-- FROM A BODY TO A METHOD -/
theorem c_of {γ : GT} {Y : MT} {d mc ms : Nat} {Post : Option AV → List AC → Prop} {as : List AV} {σ : List AC} (hy : plainName Y.1.cls = true) (hn : awd as ≤ Y.2.2.1) (h : Aj γ Y d mc ms Post 0 (lva 0 as) [] σ) : Cj γ Y d mc ms as σ Post := by
  intro ρ hok
  refine Met.ofW (cc := Y.2.1) (maxL := Y.2.2.1) (ret := Y.2.2.2) hy rfl ?_
  intro p e s m args below meth c s₁ B hml hv
  obtain ⟨rfl, hK, hH, hb⟩ := hv
  have hts := atoms_spec (ws := Cond.code Y.1 Y.2.1 Y.2.2.1 Y.2.2.2 :: gtb) B.pre
  have hl := lv_entry (as.map (cv γ ρ)) (n := Y.2.2.1) (by rw [awd_of]; exact hn)
  rw [lva_of] at hl
  rw [lg_entry_eq]
  have hq := h p e (headSpec (Cond.code Y.1 Y.2.1 Y.2.2.1 Y.2.2.2 :: gtb) (rmd d mc ms)).room s m _ below meth c s.heap [] 0 0 σ.length ρ ρ _
    ⟨B.exec, B.bytes, B.returns, B.notSynchronized, hml, findClass_of_methodNamed B.named, (name_of_methodNamed B.named B.method).1, fun w hw => hts w (List.mem_cons_of_mem _ hw), Nat.le_refl _, Nat.le_refl _, by rw [Nat.zero_add]; exact Nat.le_refl _, by rw [Nat.zero_add]; exact Nat.le_refl _, hb, hK⟩
    ⟨va_S.rf, hH, Nat.le_refl _, fun _ _ => rfl, (fun v hv => absurd hv List.not_mem_nil), lva_ok hok, hl⟩
  rw [Nat.zero_add, Nat.zero_add] at hq
  exact hq
section AR4
variable {γ : GT} {Y : MT} {d mc ms pc : Nat} {Post : Option AV → List AC → Prop} {lv : List (Nat × AV)} {st : List AV} {σ : List AC}
theorem w_call {p : Program} {e : Env} {R : Room} {s : State} {m : MethodId} {args : Array Value} {below : List Frame} {meth : Method} {c : Code} {H : Heap} {locs : List Loc} {cells slots mc' ms' : Nat} {Q : State → Prop} {ls : Array Slot} {st0 rest : List Value} {a : Array Value} {ρ : Nat → Nat} {n : Nat} {P : Option AV → List AC → Prop}
    (hr : va_Run p (g_l γ) e R s m args below meth c H locs cells slots mc' ms' (F0 m pc ls st0) rest (QC γ ρ n P a) (g_A γ)) (hS : va_S (g_A γ) s.heap H locs)
    (kk : ∀ (r : Option AV) (ρ' : Nat → Nat) (σ' : List AC) (H1 : Heap) (locs1 : List Loc), P r σ' → Hp γ ρ' σ' H1 → (∀ v, r = some v → okv σ'.length v) → n ≤ σ'.length → (∀ k, k < n → ρ' k = ρ k) → va_S (g_A γ) s.heap H1 locs1 → W p (g_l γ) e R s m args below meth c H1 locs1 (cells + mc') (slots + ms') Q (F0 m (pc + 3) ls ((r.map (cv γ ρ')).toList ++ rest))) :
    W p (g_l γ) e R s m args below meth c H locs cells slots Q (F0 m pc ls st0) := by
  intro T hT X
  obtain ⟨v, st₀, t, T', L, h0, X', hL, e1, e2, ⟨⟨r, ρ', σ', hv, hp, hH, hr', hn, he⟩, hz, hk⟩, stp⟩ := hr T hT X
  have hv2 : v = r.map (cv γ ρ') := Outcome.returned.inj hv
  rw [h0] at hz hk
  obtain ⟨t2, a1, b1⟩ := kk r ρ' σ' T'.heap (locs ++ L) hp (by rw [e1]; exact hH) hr' hn he
    ⟨Nat.le_trans hS.1 (by rw [e1]; exact hz), fun q h1 h2 => by rw [e1, hk q (Nat.lt_of_lt_of_le h1 hS.1) h2]; exact hS.2.1 q h1 h2, fun q hq => by
      rcases List.mem_append.mp hq with h | h
      · exact hS.2.2 q h
      · exact hL q h⟩ T' rfl X'
  rw [hv2] at stp
  exact ⟨t2, stp t2 a1, b1⟩
theorem lvc_ext {ρ ρ' : Nat → Nat} {n : Nat} (h : ∀ q ∈ lv, okv n q.2) (he : ∀ k, k < n → ρ' k = ρ k) : lvc γ ρ' lv = lvc γ ρ lv := by
  unfold lvc
  exact List.map_congr_left fun q hq => by rw [cv_ext (h q hq) he]
theorem stc_ext {ρ ρ' : Nat → Nat} {n : Nat} (h : ∀ v ∈ st, okv n v) (he : ∀ k, k < n → ρ' k = ρ k) : st.map (cv γ ρ') = st.map (cv γ ρ) := List.map_congr_left fun v hv => cv_ext (h v hv) he
def stw (st : List AV) : Nat := (st.map fun v => if v.1 = 1 then 2 else 1).sum
theorem stw_of (ρ : Nat → Nat) : ((st.map (cv γ ρ)).map fun v => v.category).sum = stw st := by
  unfold stw
  rw [List.map_map]
  congr 1
  exact List.map_congr_left fun v _ => cv_cat γ ρ v
/-- the world behind a call, for whom called -/
theorem w_back {p : Program} {e : Env} {R : Room} {s : State} {m : MethodId} {args : Array Value} {below : List Frame} {meth : Method} {c : Code} {H : Heap} {locs : List Loc} {cells slots mc' ms' mc1 ms1 n0 : Nat} {ρ0 ρ : Nat → Nat} {ls : Array Slot} {st0 : List Value} {a : Array Value} {as : List AV}
    (F : Fx γ Y d mc ms p R s m args meth c cells slots) (D : Dy γ Y.2.2.1 n0 ρ0 ρ lv (as ++ st) σ s H locs ls) (h1 : mc' + mc1 = mc) (h2 : ms' + ms1 = ms)
    (hr : va_Run p (g_l γ) e R s m args below meth c H locs cells slots mc' ms' (F0 m pc ls st0) (st.map (cv γ ρ)) (QC γ ρ σ.length (fun r σ' => Aj γ Y d mc1 ms1 Post (pc + 3) lv (r.toList ++ st) σ') a) (g_A γ)) :
    W p (g_l γ) e R s m args below meth c H locs cells slots (MQ below (QC γ ρ0 n0 Post) args s (cells + mc) (slots + ms) (g_A γ)) (F0 m pc ls st0) := by
  refine w_call hr D.1 fun r ρ' σ' H1 locs1 hp hH hr' hn he hS => ?_
  obtain ⟨d1, d2, d3, d4, d5, d6, d7⟩ := D
  have d5' : ∀ v ∈ st, okv σ.length v := fun v hv => d5 v (List.mem_append_right _ hv)
  have h := hp p e R s m args below meth c H1 locs1 (cells + mc') (slots + ms') n0 ρ0 ρ' ls (F.use h1 h2)
    ⟨hS, hH, Nat.le_trans d3 hn, fun k hk => (he k (Nat.lt_of_lt_of_le hk d3)).trans (d4 k hk), fun v hv => by
      rcases List.mem_append.mp hv with h | h
      · exact hr' v (by simpa using h)
      · exact okv_mono (d5' v h) hn, fun q hq => okv_mono (d6 q hq) hn, by rw [lvc_ext d6 he]; exact d7⟩
  rw [List.map_append, stc_ext d5' he] at h
  rw [show cells + mc = cells + mc' + mc1 by omega, show slots + ms = slots + ms' + ms1 by omega]
  cases r with
  | none => exact h
  | some v => exact h
theorem pre_ks {s : State} {H : Heap} {locs : List Loc} {ρ : Nat → Nat} {as : List AV} (hK : Ks γ s) (hb : g_b γ ≤ s.heap.size) (hS : va_S (g_A γ) s.heap H locs) (hH : Hp γ ρ σ H) :
    FrameBlind (va_Pc (as.map (cv γ ρ)) (fun U => Ks γ U ∧ Hp γ ρ σ U.heap ∧ g_b γ ≤ U.heap.size)) ∧ ∀ U : State, U.heap = H → s.WarmedH U.vm → va_Pc (as.map (cv γ ρ)) (fun U => Ks γ U ∧ Hp γ ρ σ U.heap ∧ g_b γ ≤ U.heap.size) (as.map (cv γ ρ)).toArray U := by
  refine ⟨fun a U g mk q => ?_, fun U hU hW => ⟨rfl, hK.warm hW hU hS hb, by rw [hU]; exact hH, by rw [hU]; exact Nat.le_trans hb hS.1⟩⟩
  obtain ⟨q1, q2, q3, q4⟩ := q
  exact ⟨q1, Ks.same (u := U) rfl rfl q2, q3, q4⟩
theorem room_of {R : Room} {d' mc' ms' maxL : Nat} (h : d' + 1 ≤ d) (hR : d ≤ R.frames ∧ 64 * d ≤ R.locals) (hm : maxL ≤ 40) : (rmd d' mc' ms').frames + 1 ≤ R.frames ∧ 8 + (maxL + 11) + (rmd d' mc' ms').locals ≤ R.locals := by
  unfold rmd
  simp only
  omega
theorem a_callS {Y' : MT} {d' mc' ms' mc1 ms1 idx : Nat} (as : List AV) {stk : List AV} (hd : decode Y.2.1 pc = .ok (.invokestatic idx, 3)) (hw : MtW Y' as.length ∧ Cond.static Y'.1 ∈ lw_tbl) (hl : Cond.methodLink Y.1.cls idx Y'.1 ∈ lw_tbl ∨ ∃ host, Cond.methodLinkNest Y.1.cls idx Y'.1 host ∈ lw_tbl) (hs : stk = as.reverse ++ st) (hst : stw st ≤ 8) (hd' : d' + 1 ≤ d) (h1 : mc' + mc1 = mc) (h2 : ms' + ms1 = ms) (k : Cj γ Y' d' mc' ms' as σ (fun r σ' => Aj γ Y d mc1 ms1 Post (pc + 3) lv (r.toList ++ st) σ')) : Aj γ Y d mc ms Post pc lv stk σ := by
  subst hs
  intro p e R s m args below meth c H locs cells slots n0 ρ0 ρ ls F D
  obtain ⟨⟨w1, w2, w3, w4⟩, w5⟩ := hw
  have hok : ∀ v ∈ as, okv σ.length v := fun v hv => D.ok v (List.mem_append_left _ (List.mem_reverse.mpr hv))
  have hM := k ρ hok
  have hp := pre_ks (as := as) F.ks F.bs D.1 D.2.1
  have hf : cells + mc' ≤ R.cells ∧ slots + ms' ≤ R.slots := by have := F.room; omega
  have hR := room_of (mc' := mc') (ms' := ms') hd' F.fr w4
  have hstk : (as.reverse ++ st).map (cv γ ρ) = (as.map (cv γ ρ)).reverse ++ st.map (cv γ ρ) := by rw [List.map_append, List.map_reverse]
  have hrm : 2 * (F0 m pc ls ((as.map (cv γ ρ)).reverse ++ st.map (cv γ ρ))).monitorRoom + ((st.map (cv γ ρ)).map fun v => v.category).sum ≤ 8 := lv_room (by rw [stw_of]; exact hst)
  refine w_back F D h1 h2 (a := (as.map (cv γ ρ)).toArray) ?_
  rw [hstk]
  rcases hl with hl | ⟨host, hl⟩
  · exact va_runS (Ts := gtb) ⟨F.1, F.2.1, F.ml, F.own, F.2.2.2.2.2.2.2.1⟩ hM ⟨callB_of as.length F.2.2.2.2.2.2.2.1 (good_cons w1) rfl rfl rfl (F.wd w2 rfl) (F.wd hl rfl) w3 hR, F.wd w5 rfl⟩ hp rfl (List.length_map ..) D.2.2.2.2.2.2.1 rfl hrm hd hf
  · exact va_runSN (Ts := gtb) ⟨F.1, F.2.1, F.ml, F.own, F.2.2.2.2.2.2.2.1⟩ hM ⟨va_cnB as.length F.2.2.2.2.2.2.2.1 (good_cons w1) rfl rfl rfl (F.ks.2.1 _ hl rfl) (F.wd w2 rfl) w3 hR, F.wd w5 rfl, trivial⟩ hp rfl (List.length_map ..) D.2.2.2.2.2.2.1 rfl hrm hd hf
theorem a_callV {Y' : MT} {d' mc' ms' mc1 ms1 idx b κ n : Nat} {f : Nat → Int} (as : List AV) {stk : List AV} (hd : decode Y.2.1 pc = .ok (.invokevirtual idx, 3)) (hw : MtW Y' as.length ∧ Cond.instanceMethod Y'.1 ∈ lw_tbl ∧ Cond.selects Y'.1.cls Y'.1 Y'.1 ∈ lw_tbl) (hl : Cond.methodLink Y.1.cls idx Y'.1 ∈ lw_tbl ∨ ∃ host, Cond.methodLinkNest Y.1.cls idx Y'.1 host ∈ lw_tbl) (hb : σ[b]? = some (κ, n, f)) (hκ : κ < 10 ∧ ∃ r : vw_C, vwCl[κ]? = some r ∧ r.1 = Y'.1.cls) (hs : stk = as.reverse ++ vA b :: st) (hst : stw st ≤ 8) (hd' : d' + 1 ≤ d) (h1 : mc' + mc1 = mc) (h2 : ms' + ms1 = ms) (k : Cj γ Y' d' mc' ms' (vA b :: as) σ (fun r σ' => Aj γ Y d mc1 ms1 Post (pc + 3) lv (r.toList ++ st) σ')) : Aj γ Y d mc ms Post pc lv stk σ := by
  subst hs
  intro p e R s m args below meth c H locs cells slots n0 ρ0 ρ ls F D
  obtain ⟨⟨w1, w2, w3, w4⟩, w5, w6⟩ := hw
  obtain ⟨k1, r, k2, k3⟩ := hκ
  have hok : ∀ v ∈ vA b :: as, okv σ.length v := fun v hv => D.ok v (by
    rcases List.mem_cons.mp hv with rfl | hv
    · exact List.mem_append_right _ List.mem_cons_self
    · exact List.mem_append_left _ (List.mem_reverse.mpr hv))
  have hM := k ρ hok
  have hp := pre_ks (as := vA b :: as) F.ks F.bs D.1 D.2.1
  rw [List.map_cons, cv_A] at hp hM
  have hf : cells + mc' ≤ R.cells ∧ slots + ms' ≤ R.slots := by have := F.room; omega
  have hR := room_of (mc' := mc') (ms' := ms') hd' F.fr w4
  have hstk : (as.reverse ++ vA b :: st).map (cv γ ρ) = (as.map (cv γ ρ)).reverse ++ .ref (ρ b) :: st.map (cv γ ρ) := by rw [List.map_append, List.map_reverse, List.map_cons, cv_A]
  have hrm : 2 * (F0 m pc ls ((as.map (cv γ ρ)).reverse ++ .ref (ρ b) :: st.map (cv γ ρ))).monitorRoom + ((st.map (cv γ ρ)).map fun v => v.category).sum ≤ 8 := lv_room (by rw [stw_of]; exact hst)
  have hrc : ∃ cellB : Cell, H[ρ b]? = some cellB ∧ cellB.vm.isStatics = false ∧ s.vm.findClass Y'.1.cls = some cellB.cls := by
    rw [← k3]
    exact va_recv F.ks.1 D.2.1.1 k2 (by rw [wl_get hb, conc_o k1])
  have D' : Dy γ Y.2.2.1 n0 ρ0 ρ lv ((as.reverse ++ [vA b]) ++ st) σ s H locs ls := by rw [List.append_assoc]; exact D
  refine w_back F D' h1 h2 (a := (.ref (ρ b) :: as.map (cv γ ρ)).toArray) ?_
  rw [hstk]
  rcases hl with hl | ⟨host, hl⟩
  · exact va_runV (Ts := gtb) ⟨F.1, F.2.1, F.ml, F.own, F.2.2.2.2.2.2.2.1⟩ hM ⟨callB_of as.length F.2.2.2.2.2.2.2.1 (good_cons w1) rfl rfl rfl (F.wd w2 rfl) (F.wd hl rfl) w3 hR, F.wd w5 rfl, F.wd w6 rfl⟩ ⟨hp.1, hrc, hp.2⟩ rfl (List.length_map ..) D.2.2.2.2.2.2.1 rfl hrm hd hf
  · exact va_runVN (Ts := gtb) ⟨F.1, F.2.1, F.ml, F.own, F.2.2.2.2.2.2.2.1⟩ hM ⟨va_cnB as.length F.2.2.2.2.2.2.2.1 (good_cons w1) rfl rfl rfl (F.ks.2.1 _ hl rfl) (F.wd w2 rfl) w3 hR, F.wd w5 rfl, F.wd w6 rfl⟩ ⟨hp.1, hrc, hp.2⟩ rfl (List.length_map ..) D.2.2.2.2.2.2.1 rfl hrm hd hf
theorem a_callI {Y' : MT} {d' mc' ms' mc1 ms1 idx b : Nat} (as : List AV) {stk : List AV} (hd : decode Y.2.1 pc = .ok (.invokespecial idx, 3)) (hw : MtW Y' as.length ∧ Cond.instanceMethod Y'.1 ∈ lw_tbl ∧ Y'.1.name = "<init>" ∧ Y'.2.2.2 = none) (hl : Cond.methodLink Y.1.cls idx Y'.1 ∈ lw_tbl ∨ ∃ host, Cond.methodLinkNest Y.1.cls idx Y'.1 host ∈ lw_tbl) (hs : stk = as.reverse ++ vA b :: st) (hst : stw st ≤ 8) (hd' : d' + 1 ≤ d) (h1 : mc' + mc1 = mc) (h2 : ms' + ms1 = ms) (k : Cj γ Y' d' mc' ms' (vA b :: as) σ (fun r σ' => Aj γ Y d mc1 ms1 Post (pc + 3) lv (r.toList ++ st) σ')) : Aj γ Y d mc ms Post pc lv stk σ := by
  subst hs
  intro p e R s m args below meth c H locs cells slots n0 ρ0 ρ ls F D
  obtain ⟨⟨w1, w2, w3, w4⟩, w5, w6, w7⟩ := hw
  have hok : ∀ v ∈ vA b :: as, okv σ.length v := fun v hv => D.ok v (by
    rcases List.mem_cons.mp hv with rfl | hv
    · exact List.mem_append_right _ List.mem_cons_self
    · exact List.mem_append_left _ (List.mem_reverse.mpr hv))
  have hM := k ρ hok
  have hp := pre_ks (as := vA b :: as) F.ks F.bs D.1 D.2.1
  rw [List.map_cons, cv_A] at hp hM
  have hf : cells + mc' ≤ R.cells ∧ slots + ms' ≤ R.slots := by have := F.room; omega
  have hR := room_of (mc' := mc') (ms' := ms') hd' F.fr w4
  have hstk : (as.reverse ++ vA b :: st).map (cv γ ρ) = (as.map (cv γ ρ)).reverse ++ .ref (ρ b) :: st.map (cv γ ρ) := by rw [List.map_append, List.map_reverse, List.map_cons, cv_A]
  have hrm : 2 * (F0 m pc ls ((as.map (cv γ ρ)).reverse ++ .ref (ρ b) :: st.map (cv γ ρ))).monitorRoom + ((st.map (cv γ ρ)).map fun v => v.category).sum ≤ 8 := lv_room (by rw [stw_of]; exact hst)
  have D' : Dy γ Y.2.2.1 n0 ρ0 ρ lv ((as.reverse ++ [vA b]) ++ st) σ s H locs ls := by rw [List.append_assoc]; exact D
  have hg := good_cons (Y := Y') w1
  rw [w7] at hM hg
  refine w_back F D' h1 h2 (a := (.ref (ρ b) :: as.map (cv γ ρ)).toArray) ?_
  rw [hstk]
  rcases hl with hl | ⟨host, hl⟩
  · exact va_runI (Ts := gtb) ⟨F.1, F.2.1, F.ml, F.own, F.2.2.2.2.2.2.2.1⟩ hM ⟨callB_of as.length F.2.2.2.2.2.2.2.1 hg rfl rfl rfl (F.wd w2 rfl) (F.wd hl rfl) w3 hR, w6, F.wd w5 rfl⟩ hp rfl (List.length_map ..) D.2.2.2.2.2.2.1 rfl hrm hd hf
  · exact va_runIN (Ts := gtb) ⟨F.1, F.2.1, F.ml, F.own, F.2.2.2.2.2.2.2.1⟩ hM ⟨va_cnB as.length F.2.2.2.2.2.2.2.1 hg rfl rfl rfl (F.ks.2.1 _ hl rfl) (F.wd w2 rfl) w3 hR, w6, F.wd w5 rfl⟩ hp rfl (List.length_map ..) D.2.2.2.2.2.2.1 rfl hrm hd hf
theorem a_objInit {idx b : Nat} (hd : decode Y.2.1 pc = .ok (.invokespecial idx, 3)) (hl : Cond.methodLink Y.1.cls idx objectInit ∈ lw_tbl) (hi : Cond.instanceMethod objectInit ∈ lw_tbl) (hc : Cond.code objectInit ⟨#[0xb1]⟩ 1 none ∈ lw_tbl) (hst : stw st ≤ 8) (hd' : 1 ≤ d) (k : Aj γ Y d mc ms Post (pc + 3) lv st σ) : Aj γ Y d mc ms Post pc lv (vA b :: st) σ := by
  intro p e R s m args below meth c H locs cells slots n0 ρ0 ρ ls F D
  rw [List.map_cons, cv_A]
  have hR := F.fr
  refine W.objInit F.1 F.2.1 F.own (F.wd hl rfl) (F.wd hi rfl) (F.wd hc rfl) rfl (by rw [F.ml]; exact D.2.2.2.2.2.2.1) rfl hd (by omega) ?_ (k p e R s m args below meth c H locs cells slots n0 ρ0 ρ ls F (D.stk ok_tl))
  have h8 := lv_room (m := m) (pc := pc) (ls := ls) (rest := .ref (ρ b) :: st.map (cv γ ρ)) (st := st.map (cv γ ρ)) (by rw [stw_of]; exact hst)
  omega
end AR4
