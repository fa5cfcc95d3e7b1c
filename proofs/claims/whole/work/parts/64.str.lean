theorem shr0 {a : Int} (h : inI a) : shr32 a 0 = a := by
  have e : Int32.ofInt a >>> (Int32.ofInt 0 &&& 31) = Int32.ofInt a := by
    have e1 : (Int32.ofInt 0 &&& 31) = 0 := by decide
    rw [e1]
    exact Int32.shiftRight_zero
  unfold shr32
  rw [e]
  exact i32_t h
set_option maxHeartbeats 8000000 in
theorem c_coder {γ : GT} {d : Nat} {si : Nat} {h : Nat → Nat → Int} {τ : List AC} {Post : Option AV → List AC → Prop} (hd : 0 ≤ d) (hsi : si < 11) (kQ : Post (some (vI 0)) (mk h τ)) : Cj γ mJ0_coder_7d493 d 0 0 [vK (2 + 2 * si)] (mk h τ) Post := by
  refine c_of (by decide) (Nat.le_of_ble_eq_true rfl) ?_
  show Aj γ mJ0_coder_7d493 d 0 0 Post 0 [(0, vK (2 + 2 * si))] [] (mk h τ)
  refine a_kcs dJ0_coder_7d493_0 ks_w ?_
  refine a_if_eq (tgt := 13) dJ0_coder_7d493_3 (by decide) (fun c => absurd c (by decide)) (fun _ => ?_)
  refine a_aload_n (j := 0) dJ0_coder_7d493_6 rfl rfl (Nat.le_of_ble_eq_true rfl) ?_
  refine a_kcod (i := si) dJ0_coder_7d493_7 hsi kc_w ?_
  refine a_goto (tgt := 14) dJ0_coder_7d493_10 (by decide) ?_
  exact a_nret dJ0_coder_7d493_14 rfl (by decide) (by first | exact kQ | (exfalso; omega))
set_option maxHeartbeats 8000000 in
theorem c_latin {γ : GT} {d : Nat} {si : Nat} {h : Nat → Nat → Int} {τ : List AC} {Post : Option AV → List AC → Prop} (hd : 0 ≤ d) (hsi : si < 11) (kQ : Post (some (vI 1)) (mk h τ)) : Cj γ mJ0_isLatin1_aae02 d 0 0 [vK (2 + 2 * si)] (mk h τ) Post := by
  refine c_of (by decide) (Nat.le_of_ble_eq_true rfl) ?_
  show Aj γ mJ0_isLatin1_aae02 d 0 0 Post 0 [(0, vK (2 + 2 * si))] [] (mk h τ)
  refine a_kcs dJ0_isLatin1_aae02_0 ks_w ?_
  refine a_if_eq (tgt := 17) dJ0_isLatin1_aae02_3 (by decide) (fun c => absurd c (by decide)) (fun _ => ?_)
  refine a_aload_n (j := 0) dJ0_isLatin1_aae02_6 rfl rfl (Nat.le_of_ble_eq_true rfl) ?_
  refine a_kcod (i := si) dJ0_isLatin1_aae02_7 hsi kc_w ?_
  refine a_if_ne (tgt := 17) dJ0_isLatin1_aae02_10 (by decide) (fun c => absurd c (by decide)) (fun _ => ?_)
  refine a_iconst dJ0_isLatin1_aae02_13 ⟨by decide, by decide⟩ ?_
  refine a_goto (tgt := 18) dJ0_isLatin1_aae02_14 (by decide) ?_
  exact a_zret dJ0_isLatin1_aae02_18 rfl (by first | exact Or.inl rfl | exact Or.inr rfl | omega) (by first | exact kQ | (exfalso; omega))
set_option maxHeartbeats 8000000 in
theorem c_strlen {γ : GT} {d : Nat} {si : Nat} {h : Nat → Nat → Int} {τ : List AC} {Post : Option AV → List AC → Prop} (hd : 1 ≤ d) (hsi : si < 11) (kQ : Post (some (vI ((slen.getD si 0 : Nat) : Int))) (mk h τ)) : Cj γ mJ0_length_8abf5 d 0 0 [vK (2 + 2 * si)] (mk h τ) Post := by
  have hb := slen_31 hsi
  refine c_of (by decide) (Nat.le_of_ble_eq_true rfl) ?_
  show Aj γ mJ0_length_8abf5 d 0 0 Post 0 [(0, vK (2 + 2 * si))] [] (mk h τ)
  refine a_aload_n (j := 0) dJ0_length_8abf5_0 rfl rfl (Nat.le_of_ble_eq_true rfl) ?_
  refine a_kval (i := si) dJ0_length_8abf5_1 hsi kv_w ?_
  refine a_klen (i := si) dJ0_length_8abf5_4 hsi ?_
  refine a_aload_n (j := 0) dJ0_length_8abf5_5 rfl rfl (Nat.le_of_ble_eq_true rfl) ?_
  refine a_callK (d' := d - 1) (mc' := 0) (ms' := 0) (mc1 := 0) (ms1 := 0) (st := [vI ((slen.getD si 0 : Nat) : Int)]) (i := si) [] dJ0_length_8abf5_6 mwJ0_coder_7d493 lkJ0_335 (by omega) rfl rfl (Nat.le_of_ble_eq_true rfl) (by omega) rfl rfl (c_coder (by omega) hsi ?_)
  show Aj γ mJ0_length_8abf5 d 0 0 Post 9 [(0, vK (2 + 2 * si))] [vI 0, vI ((slen.getD si 0 : Nat) : Int)] (mk h τ)
  refine a_ishr (z := (shr32 ((slen.getD si 0 : Nat) : Int) 0)) dJ0_length_8abf5_9 rfl ?_
  exact a_iret dJ0_length_8abf5_10 rfl (post_v kQ (shr0 (a := ((slen.getD si 0 : Nat) : Int)) ⟨by omega, by omega⟩).symm)
theorem b8_k : ∀ k : Nat, k < 256 → b8 (k : Int) = if k ≤ 127 then (k : Int) else (k : Int) - 256 := by decide +kernel
theorem b8_of {z : Int} (h : 0 ≤ z ∧ z ≤ 255) : (z ≤ 127 → b8 z = z) ∧ (127 < z → b8 z = z - 256) := by
  obtain ⟨k, rfl⟩ : ∃ k : Nat, z = (k : Int) := ⟨Int.toNat z, by omega⟩
  have q := b8_k k (by omega)
  rw [q]
  constructor
  · intro c; rw [if_pos (by omega)]
  · intro c; rw [if_neg (by omega)]
def ixL (q : Int) : List Int32 → Nat → Int
  | [], _ => -1
  | b :: l, k => if b.toInt = q then (k : Int) else ixL q l (k + 1)
/-- indexOf of a constant -/
def ixS (si : Nat) (q : Int) : Int := ixL q (sbyt.getD si []) 0
theorem ixL_e {q : Int} {l : List Int32} {k : Nat} (h : l.length ≤ k) : ixL q (l.drop k) k = -1 := by
  rw [List.drop_eq_nil_of_le h]; rfl
theorem drop_c {l : List Int32} {k : Nat} (h : k < l.length) : l.drop k = l.getD k 0 :: l.drop (k + 1) := by
  rw [List.drop_eq_getElem_cons h]
  congr 1
  simp [List.getD, List.getElem?_eq_getElem h]
theorem ixL_h {q : Int} {l : List Int32} {k : Nat} (h : k < l.length) (e : (l.getD k 0).toInt = q) : ixL q (l.drop k) k = (k : Int) := by
  rw [drop_c h]; exact if_pos e
theorem ixL_s {q : Int} {l : List Int32} {k : Nat} (h : k < l.length) (e : ¬ (l.getD k 0).toInt = q) : ixL q (l.drop k) k = ixL q (l.drop (k + 1)) (k + 1) := by
  rw [drop_c h]; exact if_neg e
theorem ixL_o {q : Int} : ∀ (l : List Int32) (k : Nat), (∀ b, b ∈ l → ¬ b.toInt = q) → ixL q l k = -1
  | [], _, _ => rfl
  | b :: l, k, h => (if_neg (h b List.mem_cons_self)).trans (ixL_o l (k + 1) (fun c hc => h c (List.mem_cons_of_mem _ hc)))
theorem sb_len {si : Nat} (h : si < 11) : slen.getD si 0 = (sbyt.getD si []).length := by
  have q : ∀ i, i < 11 → slen.getD i 0 = (sbyt.getD i []).length := by decide
  exact q si h
theorem sb_rng {si : Nat} (h : si < 11) : ∀ b, b ∈ sbyt.getD si [] → 0 ≤ b.toInt ∧ b.toInt ≤ 127 := by
  have q : ∀ i, i < 11 → ∀ b, b ∈ sbyt.getD i [] → 0 ≤ b.toInt ∧ b.toInt ≤ 127 := by decide
  exact q si h
theorem ixL_b {si : Nat} {z : Int} (h : si < 11) (hz : 0 ≤ z ∧ z ≤ 255) : ixL (b8 z) (sbyt.getD si []) 0 = ixS si z := by
  unfold ixS
  by_cases c : z ≤ 127
  · have e : b8 z = z := by
      have q := b8_of hz
      omega
    rw [e]
  · have q := b8_of hz
    rw [ixL_o _ _ (fun b hb => by have := sb_rng h b hb; omega), ixL_o _ _ (fun b hb => by have := sb_rng h b hb; omega)]
set_option maxHeartbeats 8000000 in
theorem l_ixC {γ : GT} {d : Nat} {si : Nat} {z q r : Int} {h : Nat → Nat → Int} {τ : List AC} {Post : Option AV → List AC → Prop} (hsi : si < 11) (kQ : Post (some (vI r)) (mk h τ)) :
    ∀ (f i : Nat) , i ≤ (slen.getD si 0) → (slen.getD si 0) < i + f → (ixL q ((sbyt.getD si []).drop i) i = r) → Aj γ mJ1_indexOfChar_4cfef d 0 0 Post 7 [(5, vI ((i : Nat) : Int)), (4, vI q), (0, vK (3 + 2 * si)), (1, vI z), (2, vI 0), (3, vI ((slen.getD si 0 : Nat) : Int))] [] (mk h τ) := by
  intro f
  induction f with
  | zero => intro i  h1_ h2_; omega
  | succ f ih =>
    intro i  h1_ h2_ iv
    have hsl := sb_len hsi
    have hb := slen_31 hsi
    refine a_iload (j := 0) dJ1_indexOfChar_4cfef_7 rfl ?_
    refine a_iload_n (j := 5) dJ1_indexOfChar_4cfef_9 rfl rfl ?_
    refine a_icmp_ge (tgt := 31) dJ1_indexOfChar_4cfef_10 (by decide) (fun c10_1 => ?_) (fun c10_1 => ?_)
    · refine a_iconst dJ1_indexOfChar_4cfef_31 ⟨by decide, by decide⟩ ?_
      exact a_iret dJ1_indexOfChar_4cfef_32 rfl (post_v kQ (by rw [← iv]; exact (ixL_e (by omega))))
    · refine a_aload_n (j := 2) dJ1_indexOfChar_4cfef_13 rfl rfl (Nat.le_of_ble_eq_true rfl) ?_
      refine a_iload (j := 0) dJ1_indexOfChar_4cfef_14 rfl ?_
      refine a_kb (i := si) i dJ1_indexOfChar_4cfef_16 hsi (by omega) (by omega) ?_
      refine a_iload (j := 1) dJ1_indexOfChar_4cfef_17 rfl ?_
      refine a_icmp_ne (tgt := 25) dJ1_indexOfChar_4cfef_19 (by decide) (fun c19_2 => ?_) (fun c19_2 => ?_)
      · refine a_iinc (j := 0) (z' := ((i + 1 : Nat) : Int)) (lv' := [(5, vI ((i + 1 : Nat) : Int)), (4, vI q), (0, vK (3 + 2 * si)), (1, vI z), (2, vI 0), (3, vI ((slen.getD si 0 : Nat) : Int))]) dJ1_indexOfChar_4cfef_25 rfl (w_okN (by omega) (by omega) (by omega)) (by decide) rfl ?_
        refine a_goto (tgt := 7) dJ1_indexOfChar_4cfef_28 (by decide) ?_
        refine a_lv (lv' := [(5, vI (((i + 1) : Nat) : Int)), (4, vI q), (0, vK (3 + 2 * si)), (1, vI z), (2, vI 0), (3, vI ((slen.getD si 0 : Nat) : Int))]) (by intro q hq; simp only [List.mem_cons, List.not_mem_nil, or_false] at hq ⊢; rcases hq with rfl | rfl | rfl | rfl | rfl | rfl <;> simp) (ih (i + 1)  (by omega) (by omega) ((ixL_s (by omega) (by omega)).symm.trans iv))
      · refine a_iload (j := 0) dJ1_indexOfChar_4cfef_22 rfl ?_
        exact a_iret dJ1_indexOfChar_4cfef_24 rfl (post_v kQ (by rw [← iv]; exact (ixL_h (by omega) (by omega))))
set_option maxHeartbeats 8000000 in
theorem c_ixC {γ : GT} {d : Nat} {si : Nat} {z : Int} {h : Nat → Nat → Int} {τ : List AC} {Post : Option AV → List AC → Prop} (hd : 0 ≤ d) (hsi : si < 11) (hz : 0 ≤ z ∧ z ≤ 255) (kQ : Post (some (vI (ixS si z))) (mk h τ)) : Cj γ mJ1_indexOfChar_4cfef d 0 0 [vK (3 + 2 * si), vI z, vI 0, vI ((slen.getD si 0 : Nat) : Int)] (mk h τ) Post := by
  refine c_of (by decide) (Nat.le_of_ble_eq_true rfl) ?_
  show Aj γ mJ1_indexOfChar_4cfef d 0 0 Post 0 [(0, vK (3 + 2 * si)), (1, vI z), (2, vI 0), (3, vI ((slen.getD si 0 : Nat) : Int))] [] (mk h τ)
  refine a_iload_n (j := 1) dJ1_indexOfChar_4cfef_0 rfl rfl ?_
  refine a_i2b (z := (b8 z)) dJ1_indexOfChar_4cfef_1 rfl ?_
  refine a_istore (lv' := [(4, vI (b8 z)), (0, vK (3 + 2 * si)), (1, vI z), (2, vI 0), (3, vI ((slen.getD si 0 : Nat) : Int))]) dJ1_indexOfChar_4cfef_2 (by decide) rfl ?_
  refine a_iload_n (j := 3) dJ1_indexOfChar_4cfef_4 rfl rfl ?_
  refine a_istore (lv' := [(5, vI 0), (4, vI (b8 z)), (0, vK (3 + 2 * si)), (1, vI z), (2, vI 0), (3, vI ((slen.getD si 0 : Nat) : Int))]) dJ1_indexOfChar_4cfef_5 (by decide) rfl ?_
  exact a_lv (lv' := [(5, vI ((0 : Nat) : Int)), (4, vI (b8 z)), (0, vK (3 + 2 * si)), (1, vI z), (2, vI 0), (3, vI ((slen.getD si 0 : Nat) : Int))]) (by intro q hq; simp only [List.mem_cons, List.not_mem_nil, or_false] at hq ⊢; rcases hq with rfl | rfl | rfl | rfl | rfl | rfl <;> simp) (l_ixC (h := h) (q := b8 z) hsi kQ (slen.getD si 0 + 1) 0 (by omega) (by omega) (ixL_b hsi hz))
set_option maxHeartbeats 8000000 in
theorem c_canE {γ : GT} {d : Nat} {z : Int} {h : Nat → Nat → Int} {τ : List AC} {Post : Option AV → List AC → Prop} (hd : 0 ≤ d) (hz : 0 ≤ z ∧ z ≤ 255) (kQ : Post (some (vI 1)) (mk h τ)) : Cj γ mJ1_canEncode_9a6ad d 0 0 [vI z] (mk h τ) Post := by
  refine c_of (by decide) (Nat.le_of_ble_eq_true rfl) ?_
  show Aj γ mJ1_canEncode_9a6ad d 0 0 Post 0 [(0, vI z)] [] (mk h τ)
  refine a_iload_n (j := 0) dJ1_canEncode_9a6ad_0 rfl rfl ?_
  refine a_if_lt (tgt := 15) dJ1_canEncode_9a6ad_1 (by decide) (fun c1_1 => ?_) (fun c1_1 => ?_)
  · refine a_iconst dJ1_canEncode_9a6ad_15 ⟨by decide, by decide⟩ ?_
    exact a_zret dJ1_canEncode_9a6ad_16 rfl (by first | exact Or.inl rfl | exact Or.inr rfl | omega) (by first | exact kQ | (exfalso; omega))
  · refine a_iload_n (j := 0) dJ1_canEncode_9a6ad_4 rfl rfl ?_
    refine a_sipush dJ1_canEncode_9a6ad_5 ⟨by decide, by decide, by decide⟩ ?_
    refine a_icmp_gt (tgt := 15) dJ1_canEncode_9a6ad_8 (by decide) (fun c8_2 => ?_) (fun c8_2 => ?_)
    · refine a_iconst dJ1_canEncode_9a6ad_15 ⟨by decide, by decide⟩ ?_
      exact a_zret dJ1_canEncode_9a6ad_16 rfl (by first | exact Or.inl rfl | exact Or.inr rfl | omega) (by first | exact kQ | (exfalso; omega))
    · refine a_iconst dJ1_canEncode_9a6ad_11 ⟨by decide, by decide⟩ ?_
      refine a_goto (tgt := 16) dJ1_canEncode_9a6ad_12 (by decide) ?_
      exact a_zret dJ1_canEncode_9a6ad_16 rfl (by first | exact Or.inl rfl | exact Or.inr rfl | omega) (by first | exact kQ | (exfalso; omega))
set_option maxHeartbeats 8000000 in
theorem c_ix4 {γ : GT} {d : Nat} {si : Nat} {z : Int} {h : Nat → Nat → Int} {τ : List AC} {Post : Option AV → List AC → Prop} (hd : 1 ≤ d) (hsi : si < 11) (hz : 0 ≤ z ∧ z ≤ 255) (kQ : Post (some (vI (ixS si z))) (mk h τ)) : Cj γ mJ1_indexOf_4cfef d 0 0 [vK (3 + 2 * si), vI z, vI 0, vI ((slen.getD si 0 : Nat) : Int)] (mk h τ) Post := by
  have hsl : ∀ i, i < 11 → 1 ≤ slen.getD i 0 := by decide
  have hsl := hsl si hsi
  refine c_of (by decide) (Nat.le_of_ble_eq_true rfl) ?_
  show Aj γ mJ1_indexOf_4cfef d 0 0 Post 0 [(0, vK (3 + 2 * si)), (1, vI z), (2, vI 0), (3, vI ((slen.getD si 0 : Nat) : Int))] [] (mk h τ)
  refine a_iload_n (j := 1) dJ1_indexOf_4cfef_0 rfl rfl ?_
  refine a_callS (d' := d - 1) (mc' := 0) (ms' := 0) (mc1 := 0) (ms1 := 0) (st := []) [vI z] dJ1_indexOf_4cfef_1 mwJ1_canEncode_9a6ad lkJ1_88 rfl (Nat.le_of_ble_eq_true rfl) (by omega) rfl rfl (c_canE (by omega) hz ?_)
  show Aj γ mJ1_indexOf_4cfef d 0 0 Post 4 [(0, vK (3 + 2 * si)), (1, vI z), (2, vI 0), (3, vI ((slen.getD si 0 : Nat) : Int))] [vI 1] (mk h τ)
  refine a_if_ne (tgt := 9) dJ1_indexOf_4cfef_4 (by decide) (fun _ => ?_) (fun c => absurd c (by decide))
  refine a_iload_n (j := 2) dJ1_indexOf_4cfef_9 rfl rfl ?_
  refine a_iconst dJ1_indexOf_4cfef_10 ⟨by decide, by decide⟩ ?_
  refine a_mmax (z := 0) dJ1_indexOf_4cfef_11 mlJ1_92 (Nat.le_of_ble_eq_true rfl) (by omega) (if_neg (by omega)) ?_
  refine a_istore_n (lv' := [(2, vI 0), (0, vK (3 + 2 * si)), (1, vI z), (3, vI ((slen.getD si 0 : Nat) : Int))]) dJ1_indexOf_4cfef_14 rfl (by decide) rfl ?_
  refine a_iload_n (j := 3) dJ1_indexOf_4cfef_15 rfl rfl ?_
  refine a_aload_n (j := 1) dJ1_indexOf_4cfef_16 rfl rfl (Nat.le_of_ble_eq_true rfl) ?_
  refine a_klen (i := si) dJ1_indexOf_4cfef_17 hsi ?_
  refine a_mmin (z := ((slen.getD si 0 : Nat) : Int)) dJ1_indexOf_4cfef_18 mlJ1_38 (Nat.le_of_ble_eq_true rfl) (by omega) (if_neg (by omega)) ?_
  refine a_istore_n (lv' := [(3, vI ((slen.getD si 0 : Nat) : Int)), (2, vI 0), (0, vK (3 + 2 * si)), (1, vI z)]) dJ1_indexOf_4cfef_21 rfl (by decide) rfl ?_
  refine a_iload_n (j := 1) dJ1_indexOf_4cfef_22 rfl rfl ?_
  refine a_iload_n (j := 0) dJ1_indexOf_4cfef_23 rfl rfl ?_
  refine a_icmp_lt (tgt := 29) dJ1_indexOf_4cfef_24 (by decide) (fun c24_1 => ?_) (fun c24_1 => ?_)
  · refine a_aload_n (j := 2) dJ1_indexOf_4cfef_29 rfl rfl (Nat.le_of_ble_eq_true rfl) ?_
    refine a_iload_n (j := 3) dJ1_indexOf_4cfef_30 rfl rfl ?_
    refine a_iload_n (j := 1) dJ1_indexOf_4cfef_31 rfl rfl ?_
    refine a_iload_n (j := 0) dJ1_indexOf_4cfef_32 rfl rfl ?_
    refine a_callS (d' := d - 1) (mc' := 0) (ms' := 0) (mc1 := 0) (ms1 := 0) (st := []) [vK (3 + 2 * si), vI z, vI 0, vI ((slen.getD si 0 : Nat) : Int)] dJ1_indexOf_4cfef_33 mwJ1_indexOfChar_4cfef lkJ1_95 rfl (Nat.le_of_ble_eq_true rfl) (by omega) rfl rfl (c_ixC (by omega) hsi hz ?_)
    show Aj γ mJ1_indexOf_4cfef d 0 0 Post 36 [(3, vI ((slen.getD si 0 : Nat) : Int)), (2, vI 0), (0, vK (3 + 2 * si)), (1, vI z)] [vI (ixS si z)] (mk h τ)
    exact a_iret dJ1_indexOf_4cfef_36 rfl (by first | exact kQ | (exfalso; omega))
  · refine a_iconst dJ1_indexOf_4cfef_27 ⟨by decide, by decide⟩ ?_
    exact a_iret dJ1_indexOf_4cfef_28 rfl (by first | exact kQ | (exfalso; omega))
set_option maxHeartbeats 8000000 in
theorem c_ix2 {γ : GT} {d : Nat} {si : Nat} {z : Int} {h : Nat → Nat → Int} {τ : List AC} {Post : Option AV → List AC → Prop} (hd : 2 ≤ d) (hsi : si < 11) (hz : 0 ≤ z ∧ z ≤ 255) (kQ : Post (some (vI (ixS si z))) (mk h τ)) : Cj γ mJ0_indexOf_7cf53 d 0 0 [vK (2 + 2 * si), vI z, vI 0] (mk h τ) Post := by
  refine c_of (by decide) (Nat.le_of_ble_eq_true rfl) ?_
  show Aj γ mJ0_indexOf_7cf53 d 0 0 Post 0 [(0, vK (2 + 2 * si)), (1, vI z), (2, vI 0)] [] (mk h τ)
  refine a_aload_n (j := 0) dJ0_indexOf_7cf53_0 rfl rfl (Nat.le_of_ble_eq_true rfl) ?_
  refine a_callK (d' := d - 1) (mc' := 0) (ms' := 0) (mc1 := 0) (ms1 := 0) (st := []) (i := si) [] dJ0_indexOf_7cf53_1 mwJ0_isLatin1_aae02 lkJ0_492 (by omega) rfl rfl (Nat.le_of_ble_eq_true rfl) (by omega) rfl rfl (c_latin (by omega) hsi ?_)
  show Aj γ mJ0_indexOf_7cf53 d 0 0 Post 4 [(0, vK (2 + 2 * si)), (1, vI z), (2, vI 0)] [vI 1] (mk h τ)
  refine a_if_eq (tgt := 23) dJ0_indexOf_7cf53_4 (by decide) (fun c => absurd c (by decide)) (fun _ => ?_)
  refine a_aload_n (j := 0) dJ0_indexOf_7cf53_7 rfl rfl (Nat.le_of_ble_eq_true rfl) ?_
  refine a_kval (i := si) dJ0_indexOf_7cf53_8 hsi kv_w ?_
  refine a_iload_n (j := 1) dJ0_indexOf_7cf53_11 rfl rfl ?_
  refine a_iload_n (j := 2) dJ0_indexOf_7cf53_12 rfl rfl ?_
  refine a_aload_n (j := 0) dJ0_indexOf_7cf53_13 rfl rfl (Nat.le_of_ble_eq_true rfl) ?_
  refine a_callK (d' := d - 1) (mc' := 0) (ms' := 0) (mc1 := 0) (ms1 := 0) (st := [vI 0, vI z, vK (3 + 2 * si)]) (i := si) [] dJ0_indexOf_7cf53_14 mwJ0_length_8abf5 lkJ0_505 (by omega) rfl rfl (Nat.le_of_ble_eq_true rfl) (by omega) rfl rfl (c_strlen (by omega) hsi ?_)
  show Aj γ mJ0_indexOf_7cf53 d 0 0 Post 17 [(0, vK (2 + 2 * si)), (1, vI z), (2, vI 0)] [vI ((slen.getD si 0 : Nat) : Int), vI 0, vI z, vK (3 + 2 * si)] (mk h τ)
  refine a_callS (d' := d - 1) (mc' := 0) (ms' := 0) (mc1 := 0) (ms1 := 0) (st := []) [vK (3 + 2 * si), vI z, vI 0, vI ((slen.getD si 0 : Nat) : Int)] dJ0_indexOf_7cf53_17 mwJ1_indexOf_4cfef lkJ0_637 rfl (Nat.le_of_ble_eq_true rfl) (by omega) rfl rfl (c_ix4 (by omega) hsi hz ?_)
  show Aj γ mJ0_indexOf_7cf53 d 0 0 Post 20 [(0, vK (2 + 2 * si)), (1, vI z), (2, vI 0)] [vI (ixS si z)] (mk h τ)
  refine a_goto (tgt := 36) dJ0_indexOf_7cf53_20 (by decide) ?_
  exact a_iret dJ0_indexOf_7cf53_36 rfl (by first | exact kQ | (exfalso; omega))
set_option maxHeartbeats 8000000 in
theorem c_ix1 {γ : GT} {d : Nat} {si : Nat} {z : Int} {h : Nat → Nat → Int} {τ : List AC} {Post : Option AV → List AC → Prop} (hd : 3 ≤ d) (hsi : si < 11) (hz : 0 ≤ z ∧ z ≤ 255) (kQ : Post (some (vI (ixS si z))) (mk h τ)) : Cj γ mJ0_indexOf_0f7a4 d 0 0 [vK (2 + 2 * si), vI z] (mk h τ) Post := by
  refine c_of (by decide) (Nat.le_of_ble_eq_true rfl) ?_
  show Aj γ mJ0_indexOf_0f7a4 d 0 0 Post 0 [(0, vK (2 + 2 * si)), (1, vI z)] [] (mk h τ)
  refine a_aload_n (j := 0) dJ0_indexOf_0f7a4_0 rfl rfl (Nat.le_of_ble_eq_true rfl) ?_
  refine a_iload_n (j := 1) dJ0_indexOf_0f7a4_1 rfl rfl ?_
  refine a_iconst dJ0_indexOf_0f7a4_2 ⟨by decide, by decide⟩ ?_
  refine a_callK (d' := d - 1) (mc' := 0) (ms' := 0) (mc1 := 0) (ms1 := 0) (st := []) (i := si) [vI z, vI 0] dJ0_indexOf_0f7a4_3 mwJ0_indexOf_7cf53 lkJ0_633 (by omega) rfl rfl (Nat.le_of_ble_eq_true rfl) (by omega) rfl rfl (c_ix2 (by omega) hsi hz ?_)
  show Aj γ mJ0_indexOf_0f7a4 d 0 0 Post 6 [(0, vK (2 + 2 * si)), (1, vI z)] [vI (ixS si z)] (mk h τ)
  exact a_iret dJ0_indexOf_0f7a4_6 rfl kQ
