section
variable {γ : GT} {Y : MT} {d mc ms : Nat} {Post : Option AV → List AC → Prop} {pc : Nat} {lv : List (Nat × AV)} {st : List AV} {σ : List AC}
theorem a_sio {idx : Nat} (hd : decode Y.2.1 pc = .ok (.getstatic idx, 3)) (hl : Cond.fieldLink Y.1.cls idx RJ3 "SIOOBE_FORMATTER" "Ljava/util/function/BiFunction;" ∈ lw_tbl) (k1 : Aj γ Y d mc ms Post (pc + 3) lv (vN :: st) σ) (k2 : Aj γ Y d mc ms Post (pc + 3) lv (vK 24 :: st) σ) : Aj γ Y d mc ms Post pc lv st σ := by
  intro p e R s m args below meth c H locs cells slots n0 ρ0 ρ ls F D
  rcases F.zc.2.2.2.2.2.2.2 with q | q
  · exact va_gets (A := g_A γ) F.1 F.2.1 q D.1 F.own (F.wd hl rfl) (fun _ h => h) hd (k1 p e R s m args below meth c H locs cells slots n0 ρ0 ρ ls F (D.stk (ok_cons (v := vN) (by show (-1 : Int) < _; omega))))
  · exact va_gets (A := g_A γ) F.1 F.2.1 q D.1 F.own (F.wd hl rfl) (fun _ h => h) hd (k2 p e R s m args below meth c H locs cells slots n0 ρ0 ρ ls F (D.stk (ok_cons (v := vK 24) trivial)))
end
theorem and_k : ∀ k : Nat, k < 256 → and32 (k : Int) 255 = (k : Int) := by decide +kernel
theorem and_z {z : Int} (h : 0 ≤ z ∧ z ≤ 255) : and32 z 255 = z := by
  obtain ⟨k, rfl⟩ : ∃ k : Nat, z = (k : Int) := ⟨Int.toNat z, by omega⟩
  exact and_k k (by omega)
theorem getD_in {l : List Int32} {k : Nat} (h : k < l.length) : l.getD k 0 ∈ l := by
  rw [List.getD_eq_getElem?_getD, List.getElem?_eq_getElem h]
  exact List.getElem_mem h
theorem sbb_at {si k : Nat} (h : si < 11) (hk : k < slen.getD si 0) : 0 ≤ ((sbyt.getD si []).getD k 0).toInt ∧ ((sbyt.getD si []).getD k 0).toInt ≤ 127 := by
  have hl := sb_len h
  exact sb_rng h _ (getD_in (by omega))
theorem nar_k : ∀ k : Nat, k < 256 → narrow FieldType.char (Value.int (Int32.ofInt (k : Int))) = Value.int (Int32.ofInt (k : Int)) := by decide +kernel
theorem nar_z {z : Int} (h : 0 ≤ z ∧ z ≤ 255) : narrow FieldType.char (Value.int (Int32.ofInt z)) = Value.int (Int32.ofInt z) := by
  obtain ⟨k, rfl⟩ : ∃ k : Nat, z = (k : Int) := ⟨Int.toNat z, by omega⟩
  exact nar_k k (by omega)
set_option maxHeartbeats 8000000 in
theorem c_ck_n {γ : GT} {d : Nat} {a b : Int} {h : Nat → Nat → Int} {τ : List AC} {Post : Option AV → List AC → Prop} (hd : 0 ≤ d) (hab : 0 ≤ a ∧ a < b) (kQ : Post (some (vI a)) (mk h τ)) : Cj γ mJ3_checkIndex_8e157 d 0 0 [vI a, vI b, vN] (mk h τ) Post := by
  refine c_of (by decide) (Nat.le_of_ble_eq_true rfl) ?_
  show Aj γ mJ3_checkIndex_8e157 d 0 0 Post 0 [(0, vI a), (1, vI b), (2, vN)] [] (mk h τ)
  refine a_iload_n (j := 0) dJ3_checkIndex_8e157_0 rfl rfl ?_
  refine a_if_lt (tgt := 9) dJ3_checkIndex_8e157_1 (by decide) (fun c1_1 => ?_) (fun c1_1 => ?_)
  · exfalso
    omega
  · refine a_iload_n (j := 0) dJ3_checkIndex_8e157_4 rfl rfl ?_
    refine a_iload_n (j := 1) dJ3_checkIndex_8e157_5 rfl rfl ?_
    refine a_icmp_lt (tgt := 16) dJ3_checkIndex_8e157_6 (by decide) (fun c6_2 => ?_) (fun c6_2 => ?_)
    · refine a_iload_n (j := 0) dJ3_checkIndex_8e157_16 rfl rfl ?_
      exact a_iret dJ3_checkIndex_8e157_17 rfl (by first | exact kQ | (exfalso; omega))
    · exfalso
      omega
set_option maxHeartbeats 8000000 in
theorem c_ck_k {γ : GT} {d : Nat} {a b : Int} {h : Nat → Nat → Int} {τ : List AC} {Post : Option AV → List AC → Prop} (hd : 0 ≤ d) (hab : 0 ≤ a ∧ a < b) (kQ : Post (some (vI a)) (mk h τ)) : Cj γ mJ3_checkIndex_8e157 d 0 0 [vI a, vI b, vK 24] (mk h τ) Post := by
  refine c_of (by decide) (Nat.le_of_ble_eq_true rfl) ?_
  show Aj γ mJ3_checkIndex_8e157 d 0 0 Post 0 [(0, vI a), (1, vI b), (2, vK 24)] [] (mk h τ)
  refine a_iload_n (j := 0) dJ3_checkIndex_8e157_0 rfl rfl ?_
  refine a_if_lt (tgt := 9) dJ3_checkIndex_8e157_1 (by decide) (fun c1_1 => ?_) (fun c1_1 => ?_)
  · exfalso
    omega
  · refine a_iload_n (j := 0) dJ3_checkIndex_8e157_4 rfl rfl ?_
    refine a_iload_n (j := 1) dJ3_checkIndex_8e157_5 rfl rfl ?_
    refine a_icmp_lt (tgt := 16) dJ3_checkIndex_8e157_6 (by decide) (fun c6_2 => ?_) (fun c6_2 => ?_)
    · refine a_iload_n (j := 0) dJ3_checkIndex_8e157_16 rfl rfl ?_
      exact a_iret dJ3_checkIndex_8e157_17 rfl (by first | exact kQ | (exfalso; omega))
    · exfalso
      omega
set_option maxHeartbeats 8000000 in
theorem c_ckS {γ : GT} {d : Nat} {a b : Int} {h : Nat → Nat → Int} {τ : List AC} {Post : Option AV → List AC → Prop} (hd : 1 ≤ d) (hab : 0 ≤ a ∧ a < b) (kQ : Post none (mk h τ)) : Cj γ mJ0_checkIndex_df160 d 0 0 [vI a, vI b] (mk h τ) Post := by
  refine c_of (by decide) (Nat.le_of_ble_eq_true rfl) ?_
  show Aj γ mJ0_checkIndex_df160 d 0 0 Post 0 [(0, vI a), (1, vI b)] [] (mk h τ)
  refine a_iload_n (j := 0) dJ0_checkIndex_df160_0 rfl rfl ?_
  refine a_iload_n (j := 1) dJ0_checkIndex_df160_1 rfl rfl ?_
  refine a_sio dJ0_checkIndex_df160_2 kq_w ?_ ?_
  · refine a_callS (d' := d - 1) (mc' := 0) (ms' := 0) (mc1 := 0) (ms1 := 0) (st := []) [vI a, vI b, vN] dJ0_checkIndex_df160_5 mwJ3_checkIndex_8e157 lkJ0_1059 rfl (Nat.le_of_ble_eq_true rfl) (by omega) rfl rfl (c_ck_n (by omega) (by omega) ?_)
    show Aj γ mJ0_checkIndex_df160 d 0 0 Post 8 [(0, vI a), (1, vI b)] [vI a] (mk h τ)
    refine a_pop dJ0_checkIndex_df160_8 (fun h => nomatch h) ?_
    exact a_vret dJ0_checkIndex_df160_9 rfl kQ
  · refine a_callS (d' := d - 1) (mc' := 0) (ms' := 0) (mc1 := 0) (ms1 := 0) (st := []) [vI a, vI b, vK 24] dJ0_checkIndex_df160_5 mwJ3_checkIndex_8e157 lkJ0_1059 rfl (Nat.le_of_ble_eq_true rfl) (by omega) rfl rfl (c_ck_k (by omega) (by omega) ?_)
    show Aj γ mJ0_checkIndex_df160 d 0 0 Post 8 [(0, vI a), (1, vI b)] [vI a] (mk h τ)
    refine a_pop dJ0_checkIndex_df160_8 (fun h => nomatch h) ?_
    exact a_vret dJ0_checkIndex_df160_9 rfl kQ
set_option maxHeartbeats 8000000 in
theorem c_ch1 {γ : GT} {d : Nat} {si k : Nat} {h : Nat → Nat → Int} {τ : List AC} {Post : Option AV → List AC → Prop} (hd : 2 ≤ d) (hsi : si < 11) (hk : k < slen.getD si 0) (kQ : Post (some (vI ((sbyt.getD si []).getD k 0).toInt)) (mk h τ)) : Cj γ mJ1_charAt_3b067 d 0 0 [vK (3 + 2 * si), vI ((k : Nat) : Int)] (mk h τ) Post := by
  have hb := slen_31 hsi
  have hr := sbb_at hsi hk
  refine c_of (by decide) (Nat.le_of_ble_eq_true rfl) ?_
  show Aj γ mJ1_charAt_3b067 d 0 0 Post 0 [(0, vK (3 + 2 * si)), (1, vI ((k : Nat) : Int))] [] (mk h τ)
  refine a_iload_n (j := 1) dJ1_charAt_3b067_0 rfl rfl ?_
  refine a_aload_n (j := 0) dJ1_charAt_3b067_1 rfl rfl (Nat.le_of_ble_eq_true rfl) ?_
  refine a_klen (i := si) dJ1_charAt_3b067_2 hsi ?_
  refine a_callS (d' := d - 1) (mc' := 0) (ms' := 0) (mc1 := 0) (ms1 := 0) (st := []) [vI ((k : Nat) : Int), vI ((slen.getD si 0 : Nat) : Int)] dJ1_charAt_3b067_3 mwJ0_checkIndex_df160 lkJ1_9 rfl (Nat.le_of_ble_eq_true rfl) (by omega) rfl rfl (c_ckS (by omega) (by omega) ?_)
  show Aj γ mJ1_charAt_3b067 d 0 0 Post 6 [(0, vK (3 + 2 * si)), (1, vI ((k : Nat) : Int))] [] (mk h τ)
  refine a_aload_n (j := 0) dJ1_charAt_3b067_6 rfl rfl (Nat.le_of_ble_eq_true rfl) ?_
  refine a_iload_n (j := 1) dJ1_charAt_3b067_7 rfl rfl ?_
  refine a_kb (i := si) k dJ1_charAt_3b067_8 hsi (by omega) (by omega) ?_
  refine a_sipush dJ1_charAt_3b067_9 ⟨by decide, by decide, by decide⟩ ?_
  refine a_iand (z := (and32 (((sbyt.getD si []).getD k 0).toInt) 255)) dJ1_charAt_3b067_12 rfl ?_
  refine a_i2c (z := (c16 (and32 (((sbyt.getD si []).getD k 0).toInt) 255))) dJ1_charAt_3b067_13 rfl ?_
  exact a_nret dJ1_charAt_3b067_14 rfl (by rw [and_z (by omega), c16_z (by omega)]; exact nar_z (by omega)) (post_v kQ (by rw [and_z (by omega), c16_z (by omega)]))
set_option maxHeartbeats 8000000 in
theorem c_char {γ : GT} {d : Nat} {si k : Nat} {h : Nat → Nat → Int} {τ : List AC} {Post : Option AV → List AC → Prop} (hd : 3 ≤ d) (hsi : si < 11) (hk : k < slen.getD si 0) (kQ : Post (some (vI ((sbyt.getD si []).getD k 0).toInt)) (mk h τ)) : Cj γ mJ0_charAt_5068e d 0 0 [vK (2 + 2 * si), vI ((k : Nat) : Int)] (mk h τ) Post := by
  refine c_of (by decide) (Nat.le_of_ble_eq_true rfl) ?_
  show Aj γ mJ0_charAt_5068e d 0 0 Post 0 [(0, vK (2 + 2 * si)), (1, vI ((k : Nat) : Int))] [] (mk h τ)
  refine a_aload_n (j := 0) dJ0_charAt_5068e_0 rfl rfl (Nat.le_of_ble_eq_true rfl) ?_
  refine a_callK (d' := d - 1) (mc' := 0) (ms' := 0) (mc1 := 0) (ms1 := 0) (st := []) (i := si) [] dJ0_charAt_5068e_1 mwJ0_isLatin1_aae02 lkJ0_492 (by omega) rfl rfl (Nat.le_of_ble_eq_true rfl) (by omega) rfl rfl (c_latin (by omega) hsi ?_)
  show Aj γ mJ0_charAt_5068e d 0 0 Post 4 [(0, vK (2 + 2 * si)), (1, vI ((k : Nat) : Int))] [vI 1] (mk h τ)
  refine a_if_eq (tgt := 16) dJ0_charAt_5068e_4 (by decide) (fun c => absurd c (by decide)) (fun _ => ?_)
  refine a_aload_n (j := 0) dJ0_charAt_5068e_7 rfl rfl (Nat.le_of_ble_eq_true rfl) ?_
  refine a_kval (i := si) dJ0_charAt_5068e_8 hsi kv_w ?_
  refine a_iload_n (j := 1) dJ0_charAt_5068e_11 rfl rfl ?_
  refine a_callS (d' := d - 1) (mc' := 0) (ms' := 0) (mc1 := 0) (ms1 := 0) (st := []) [vK (3 + 2 * si), vI ((k : Nat) : Int)] dJ0_charAt_5068e_12 mwJ1_charAt_3b067 lkJ0_495 rfl (Nat.le_of_ble_eq_true rfl) (by omega) rfl rfl (c_ch1 (by omega) hsi hk ?_)
  show Aj γ mJ0_charAt_5068e d 0 0 Post 15 [(0, vK (2 + 2 * si)), (1, vI ((k : Nat) : Int))] [vI (((sbyt.getD si []).getD k 0).toInt)] (mk h τ)
  exact a_nret dJ0_charAt_5068e_15 rfl (nar_z (by have := sbb_at hsi hk; omega)) (by first | exact kQ | (exfalso; omega))
