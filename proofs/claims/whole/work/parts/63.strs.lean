theorem kv_w : Cond.fieldLink RJ0 9 RJ0 "value" "[B" ∈ lw_tbl := tb_7 (List.mem_of_getElem? (i := 167) (by decide +kernel : (tables_1_7)[167]? = some (Cond.fieldLink RJ0 9 RJ0 "value" "[B")))
theorem kc_w : Cond.fieldLink RJ0 15 RJ0 "coder" "B" ∈ lw_tbl := tb_7 (List.mem_of_getElem? (i := 168) (by decide +kernel : (tables_1_7)[168]? = some (Cond.fieldLink RJ0 15 RJ0 "coder" "B")))
theorem ks_w : Cond.fieldLink RJ0 38 RJ0 "COMPACT_STRINGS" "Z" ∈ lw_tbl := tb_4 (List.mem_of_getElem? (i := 27) (by decide +kernel : (tables_1_4)[27]? = some (Cond.fieldLink RJ0 38 RJ0 "COMPACT_STRINGS" "Z")))
theorem kq_w : Cond.fieldLink RJ0 1053 RJ3 "SIOOBE_FORMATTER" "Ljava/util/function/BiFunction;" ∈ lw_tbl := tb_4 (List.mem_of_getElem? (i := 43) (by decide +kernel : (tables_1_4)[43]? = some (Cond.fieldLink RJ0 1053 RJ3 "SIOOBE_FORMATTER" "Ljava/util/function/BiFunction;")))
section
variable {γ : GT} {Y : MT} {d mc ms : Nat} {Post : Option AV → List AC → Prop} {pc : Nat} {lv : List (Nat × AV)} {st : List AV} {σ : List AC}
theorem a_kval {i idx : Nat} (hd : decode Y.2.1 pc = .ok (.getfield idx, 3)) (hi : i < 11) (hl : Cond.fieldLink Y.1.cls idx RJ0 "value" "[B" ∈ lw_tbl) (kk : Aj γ Y d mc ms Post (pc + 3) lv (vK (3 + 2 * i) :: st) σ) : Aj γ Y d mc ms Post pc lv (vK (2 + 2 * i) :: st) σ := by
  intro p e R s m args below meth c H locs cells slots n0 ρ0 ρ ls F D
  exact vk_getf (A := g_A γ) F.1 F.2.1 (F.zc.2.2.2.2.1.1 i hi).2.2.1 D.1 F.own (F.wd hl rfl) (fun _ h => h) hd (kk p e R s m args below meth c H locs cells slots n0 ρ0 ρ ls F (D.stk fun q => ok_cons (v := vK (3 + 2 * i)) trivial (ok_tl q)))
theorem a_kcod {i idx : Nat} (hd : decode Y.2.1 pc = .ok (.getfield idx, 3)) (hi : i < 11) (hl : Cond.fieldLink Y.1.cls idx RJ0 "coder" "B" ∈ lw_tbl) (kk : Aj γ Y d mc ms Post (pc + 3) lv (vI 0 :: st) σ) : Aj γ Y d mc ms Post pc lv (vK (2 + 2 * i) :: st) σ := by
  intro p e R s m args below meth c H locs cells slots n0 ρ0 ρ ls F D
  exact vk_getf (A := g_A γ) F.1 F.2.1 (F.zc.2.2.2.2.1.1 i hi).2.1 D.1 F.own (F.wd hl rfl) (fun _ h => h) hd (kk p e R s m args below meth c H locs cells slots n0 ρ0 ρ ls F (D.stk fun q => ok_cons (v := vI 0) (⟨by decide, by decide⟩ : inI 0) (ok_tl q)))
theorem a_kcs {idx : Nat} (hd : decode Y.2.1 pc = .ok (.getstatic idx, 3)) (hl : Cond.fieldLink Y.1.cls idx RJ0 "COMPACT_STRINGS" "Z" ∈ lw_tbl) (kk : Aj γ Y d mc ms Post (pc + 3) lv (vI 1 :: st) σ) : Aj γ Y d mc ms Post pc lv st σ := by
  intro p e R s m args below meth c H locs cells slots n0 ρ0 ρ ls F D
  exact va_gets (A := g_A γ) F.1 F.2.1 F.zc.2.2.2.2.2.2.1 D.1 F.own (F.wd hl rfl) (fun _ h => h) hd (kk p e R s m args below meth c H locs cells slots n0 ρ0 ρ ls F (D.stk (ok_cons (v := vI 1) (⟨by decide, by decide⟩ : inI 1))))
theorem slen_31 {i : Nat} (hi : i < 11) : slen.getD i 0 < 2147483648 := by
  have h : ∀ i, i < 11 → slen.getD i 0 < 2147483648 := by decide
  exact h i hi
theorem a_klen {i : Nat} (hd : decode Y.2.1 pc = .ok (.arraylength, 1)) (hi : i < 11) (kk : Aj γ Y d mc ms Post (pc + 1) lv (vI ((slen.getD i 0 : Nat) : Int) :: st) σ) : Aj γ Y d mc ms Post pc lv (vK (3 + 2 * i) :: st) σ := by
  intro p e R s m args below meth c H locs cells slots n0 ρ0 ρ ls F D
  have hb := slen_31 hi
  have h := kk p e R s m args below meth c H locs cells slots n0 ρ0 ρ ls F (D.stk fun q => ok_cons (v := vI ((slen.getD i 0 : Nat) : Int)) (⟨by omega, by omega⟩ : inI ((slen.getD i 0 : Nat) : Int)) (ok_tl q))
  rw [List.map_cons, show cv γ ρ (vI ((slen.getD i 0 : Nat) : Int)) = .int (Int32.ofNat (slen.getD i 0)) from congrArg Value.int (Int32.ofInt_eq_ofNat ..)] at h
  exact va_tlen (A := g_A γ) F.1 F.2.1 (F.zc.2.2.2.2.1.1 i hi).2.2.2 D.1 rfl hd h
theorem a_kb {i : Nat} {z : Int} (k : Nat) (hd : decode Y.2.1 pc = .ok (.baload, 1)) (hi : i < 11) (hz : z = (k : Int)) (hk : k < slen.getD i 0) (kk : Aj γ Y d mc ms Post (pc + 1) lv (vI ((sbyt.getD i []).getD k 0).toInt :: st) σ) : Aj γ Y d mc ms Post pc lv (vI z :: vK (3 + 2 * i) :: st) σ := by
  intro p e R s m args below meth c H locs cells slots n0 ρ0 ρ ls F D
  obtain ⟨h1, h2⟩ := i32_in (ok_hd D.ok : inI z) hz hk
  have h := kk p e R s m args below meth c H locs cells slots n0 ρ0 ρ ls F (D.stk fun q => ok_cons (v := vI ((sbyt.getD i []).getD k 0).toInt) (i32_rng _) (ok_tl (ok_tl q)))
  rw [List.map_cons, show cv γ ρ (vI ((sbyt.getD i []).getD k 0).toInt) = .int ((sbyt.getD i []).getD k 0) from congrArg Value.int (i32_of _)] at h
  exact va_tb (A := g_A γ) F.1 F.2.1 (F.zc.2.2.2.2.1.1 i hi).2.2.2 D.1 h1 (v := .int ((sbyt.getD i []).getD k 0)) (by rw [h2]) hd h
theorem a_callK {Y' : MT} {d' mc' ms' mc1 ms1 idx i : Nat} (as : List AV) {stk : List AV} (hd : decode Y.2.1 pc = .ok (.invokevirtual idx, 3)) (hw : MtW Y' as.length ∧ Cond.instanceMethod Y'.1 ∈ lw_tbl ∧ Cond.selects Y'.1.cls Y'.1 Y'.1 ∈ lw_tbl) (hl : Cond.methodLink Y.1.cls idx Y'.1 ∈ lw_tbl ∨ ∃ host, Cond.methodLinkNest Y.1.cls idx Y'.1 host ∈ lw_tbl) (hi : i < 11) (hc : Y'.1.cls = RJ0) (hs : stk = as.reverse ++ vK (2 + 2 * i) :: st) (hst : stw st ≤ 8) (hd' : d' + 1 ≤ d) (h1 : mc' + mc1 = mc) (h2 : ms' + ms1 = ms) (k : Cj γ Y' d' mc' ms' (vK (2 + 2 * i) :: as) σ (fun r σ' => Aj γ Y d mc1 ms1 Post (pc + 3) lv (r.toList ++ st) σ')) : Aj γ Y d mc ms Post pc lv stk σ := by
  subst hs
  intro p e R s m args below meth c H locs cells slots n0 ρ0 ρ ls F D
  obtain ⟨⟨w1, w2, w3, w4⟩, w5, w6⟩ := hw
  have hok : ∀ v ∈ vK (2 + 2 * i) :: as, okv σ.length v := fun v hv => D.ok v (by
    rcases List.mem_cons.mp hv with rfl | hv
    · exact List.mem_append_right _ List.mem_cons_self
    · exact List.mem_append_left _ (List.mem_reverse.mpr hv))
  have hM := k ρ hok
  have hp := pre_ks (as := vK (2 + 2 * i) :: as) F.ks F.bs D.1 D.2.1
  have cvK : cv γ ρ (vK (2 + 2 * i)) = .ref (g_k γ (2 + 2 * i)) := rfl
  rw [List.map_cons, cvK] at hp hM
  have hf : cells + mc' ≤ R.cells ∧ slots + ms' ≤ R.slots := by have := F.room; omega
  have hR := room_of (mc' := mc') (ms' := ms') hd' F.fr w4
  have hstk : (as.reverse ++ vK (2 + 2 * i) :: st).map (cv γ ρ) = (as.map (cv γ ρ)).reverse ++ .ref (g_k γ (2 + 2 * i)) :: st.map (cv γ ρ) := by rw [List.map_append, List.map_reverse, List.map_cons, cvK]
  have hrm : 2 * (F0 m pc ls ((as.map (cv γ ρ)).reverse ++ .ref (g_k γ (2 + 2 * i)) :: st.map (cv γ ρ))).monitorRoom + ((st.map (cv γ ρ)).map fun v => v.category).sum ≤ 8 := lv_room (by rw [stw_of]; exact hst)
  have hrc : ∃ cellB : Cell, H[g_k γ (2 + 2 * i)]? = some cellB ∧ cellB.vm.isStatics = false ∧ s.vm.findClass Y'.1.cls = some cellB.cls := by
    rw [hc]
    exact vk_recv (i := i) F.zc.2.2.2.2.1 hi D.1
  have D' : Dy γ Y.2.2.1 n0 ρ0 ρ lv ((as.reverse ++ [vK (2 + 2 * i)]) ++ st) σ s H locs ls := by rw [List.append_assoc]; exact D
  refine w_back F D' h1 h2 (a := (.ref (g_k γ (2 + 2 * i)) :: as.map (cv γ ρ)).toArray) ?_
  rw [hstk]
  rcases hl with hl | ⟨host, hl⟩
  · exact va_runV (Ts := gtb) ⟨F.1, F.2.1, F.ml, F.own, F.2.2.2.2.2.2.2.1⟩ hM ⟨callB_of as.length F.2.2.2.2.2.2.2.1 (good_cons w1) rfl rfl rfl (F.wd w2 rfl) (F.wd hl rfl) w3 hR, F.wd w5 rfl, F.wd w6 rfl⟩ ⟨hp.1, hrc, hp.2⟩ rfl (List.length_map ..) D.2.2.2.2.2.2.1 rfl hrm hd hf
  · exact va_runVN (Ts := gtb) ⟨F.1, F.2.1, F.ml, F.own, F.2.2.2.2.2.2.2.1⟩ hM ⟨va_cnB as.length F.2.2.2.2.2.2.2.1 (good_cons w1) rfl rfl rfl (F.ks.2.1 _ hl rfl) (F.wd w2 rfl) w3 hR, F.wd w5 rfl, F.wd w6 rfl⟩ ⟨hp.1, hrc, hp.2⟩ rfl (List.length_map ..) D.2.2.2.2.2.2.1 rfl hrm hd hf
end
