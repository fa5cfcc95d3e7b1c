set_option maxHeartbeats 8000000 in
theorem c_signs {γ : GT} {d : Nat} {L : Nat} {h : Nat → Nat → Int} {τ : List AC} {Post : Option AV → List AC → Prop} (hd : 0 ≤ d) (hL : L < 5) (kQ : Post (some (vK (2 + 2 * (6 + L)))) (mk h τ)) : Cj γ mX3_signsOf d 0 0 [vI ((L : Nat) : Int)] (mk h τ) Post := by
  refine c_of (by decide) (Nat.le_of_ble_eq_true rfl) ?_
  show Aj γ mX3_signsOf d 0 0 Post 0 [(0, vI ((L : Nat) : Int))] [] (mk h τ)
  refine a_iload_n (j := 0) dX3_signsOf_0 rfl rfl ?_
  rcases (show ((L : Nat) : Int) = 0 ∨ ((L : Nat) : Int) = 1 ∨ ((L : Nat) : Int) = 2 ∨ ((L : Nat) : Int) = 3 ∨ (¬ ((L : Nat) : Int) = 0 ∧ ¬ ((L : Nat) : Int) = 1 ∧ ¬ ((L : Nat) : Int) = 2 ∧ ¬ ((L : Nat) : Int) = 3) by omega) with c1_1 | c1_1 | c1_1 | c1_1 | c1_1
  · refine a_tblIn (tgt := 32) 0 dX3_signsOf_1 ⟨by omega, by omega⟩ rfl (by decide) ?_
    refine a_ldcS (i := 6) dX3_signsOf_32 (by decide) rfl ?_
    exact a_aret dX3_signsOf_34 rfl (Or.inl ⟨_, rfl⟩) (Nat.le_of_ble_eq_true rfl) (by first | (exfalso; omega) | (obtain rfl : L = 0 := (by omega); exact kQ))
  · refine a_tblIn (tgt := 35) 1 dX3_signsOf_1 ⟨by omega, by omega⟩ rfl (by decide) ?_
    refine a_ldcS (i := 7) dX3_signsOf_35 (by decide) rfl ?_
    exact a_aret dX3_signsOf_37 rfl (Or.inl ⟨_, rfl⟩) (Nat.le_of_ble_eq_true rfl) (by first | (exfalso; omega) | (obtain rfl : L = 1 := (by omega); exact kQ))
  · refine a_tblIn (tgt := 38) 2 dX3_signsOf_1 ⟨by omega, by omega⟩ rfl (by decide) ?_
    refine a_ldcS (i := 8) dX3_signsOf_38 (by decide) rfl ?_
    exact a_aret dX3_signsOf_40 rfl (Or.inl ⟨_, rfl⟩) (Nat.le_of_ble_eq_true rfl) (by first | (exfalso; omega) | (obtain rfl : L = 2 := (by omega); exact kQ))
  · refine a_tblIn (tgt := 41) 3 dX3_signsOf_1 ⟨by omega, by omega⟩ rfl (by decide) ?_
    refine a_ldcS (i := 9) dX3_signsOf_41 (by decide) rfl ?_
    exact a_aret dX3_signsOf_43 rfl (Or.inl ⟨_, rfl⟩) (Nat.le_of_ble_eq_true rfl) (by first | (exfalso; omega) | (obtain rfl : L = 3 := (by omega); exact kQ))
  · refine a_tblOut (tgt := 44) dX3_signsOf_1 (by omega) (by decide) ?_
    refine a_ldcS (i := 10) dX3_signsOf_44 (by decide) rfl ?_
    exact a_aret dX3_signsOf_46 rfl (Or.inl ⟨_, rfl⟩) (Nat.le_of_ble_eq_true rfl) (by first | (exfalso; omega) | (obtain rfl : L = 4 := (by omega); exact kQ))
set_option maxHeartbeats 8000000 in
theorem c_names {γ : GT} {d : Nat} {L : Nat} {h : Nat → Nat → Int} {τ : List AC} {Post : Option AV → List AC → Prop} (hd : 0 ≤ d) (hL : L < 3) (kQ : Post (some (vK (2 + 2 * (3 + L)))) (mk h τ)) : Cj γ mX3_namesOf d 0 0 [vI ((L : Nat) : Int)] (mk h τ) Post := by
  refine c_of (by decide) (Nat.le_of_ble_eq_true rfl) ?_
  show Aj γ mX3_namesOf d 0 0 Post 0 [(0, vI ((L : Nat) : Int))] [] (mk h τ)
  refine a_iload_n (j := 0) dX3_namesOf_0 rfl rfl ?_
  rcases (show ((L : Nat) : Int) = 0 ∨ ((L : Nat) : Int) = 1 ∨ (¬ ((L : Nat) : Int) = 0 ∧ ¬ ((L : Nat) : Int) = 1) by omega) with c1_1 | c1_1 | c1_1
  · refine a_lookup (tgt := 28) (off := 27) dX3_namesOf_1 (by decide) (by rw [c1_1]; decide) (by decide) ?_
    refine a_ldcS (i := 3) dX3_namesOf_28 (by decide) rfl ?_
    exact a_aret dX3_namesOf_30 rfl (Or.inl ⟨_, rfl⟩) (Nat.le_of_ble_eq_true rfl) (by first | (exfalso; omega) | (obtain rfl : L = 0 := (by omega); exact kQ))
  · refine a_lookup (tgt := 31) (off := 30) dX3_namesOf_1 (by decide) (by rw [c1_1]; decide) (by decide) ?_
    refine a_ldcS (i := 4) dX3_namesOf_31 (by decide) rfl ?_
    exact a_aret dX3_namesOf_33 rfl (Or.inl ⟨_, rfl⟩) (Nat.le_of_ble_eq_true rfl) (by first | (exfalso; omega) | (obtain rfl : L = 1 := (by omega); exact kQ))
  · refine a_lookup (tgt := 34) (off := 33) dX3_namesOf_1 (by decide) (by simp only [Op.lookupswitch.offset]; (repeat' split) <;> omega) (by decide) ?_
    refine a_ldcS (i := 5) dX3_namesOf_34 (by decide) rfl ?_
    exact a_aret dX3_namesOf_36 rfl (Or.inl ⟨_, rfl⟩) (Nat.le_of_ble_eq_true rfl) (by first | (exfalso; omega) | (obtain rfl : L = 2 := (by omega); exact kQ))
set_option maxHeartbeats 8000000 in
theorem c_words {γ : GT} {d : Nat} {L : Nat} {h : Nat → Nat → Int} {τ : List AC} {Post : Option AV → List AC → Prop} (hd : 0 ≤ d) (hL : L < 3) (kQ : Post (some (vK (2 + 2 * (0 + L)))) (mk h τ)) : Cj γ mX3_wordOf d 0 0 [vI ((L : Nat) : Int)] (mk h τ) Post := by
  refine c_of (by decide) (Nat.le_of_ble_eq_true rfl) ?_
  show Aj γ mX3_wordOf d 0 0 Post 0 [(0, vI ((L : Nat) : Int))] [] (mk h τ)
  refine a_iload_n (j := 0) dX3_wordOf_0 rfl rfl ?_
  rcases (show ((L : Nat) : Int) = 0 ∨ ((L : Nat) : Int) = 1 ∨ (¬ ((L : Nat) : Int) = 0 ∧ ¬ ((L : Nat) : Int) = 1) by omega) with c1_1 | c1_1 | c1_1
  · refine a_lookup (tgt := 28) (off := 27) dX3_wordOf_1 (by decide) (by rw [c1_1]; decide) (by decide) ?_
    refine a_ldcS (i := 0) dX3_wordOf_28 (by decide) rfl ?_
    exact a_aret dX3_wordOf_30 rfl (Or.inl ⟨_, rfl⟩) (Nat.le_of_ble_eq_true rfl) (by first | (exfalso; omega) | (obtain rfl : L = 0 := (by omega); exact kQ))
  · refine a_lookup (tgt := 31) (off := 30) dX3_wordOf_1 (by decide) (by rw [c1_1]; decide) (by decide) ?_
    refine a_ldcS (i := 1) dX3_wordOf_31 (by decide) rfl ?_
    exact a_aret dX3_wordOf_33 rfl (Or.inl ⟨_, rfl⟩) (Nat.le_of_ble_eq_true rfl) (by first | (exfalso; omega) | (obtain rfl : L = 1 := (by omega); exact kQ))
  · refine a_lookup (tgt := 34) (off := 33) dX3_wordOf_1 (by decide) (by simp only [Op.lookupswitch.offset]; (repeat' split) <;> omega) (by decide) ?_
    refine a_ldcS (i := 2) dX3_wordOf_34 (by decide) rfl ?_
    exact a_aret dX3_wordOf_36 rfl (Or.inl ⟨_, rfl⟩) (Nat.le_of_ble_eq_true rfl) (by first | (exfalso; omega) | (obtain rfl : L = 2 := (by omega); exact kQ))
theorem ixL_rng {q : Int} : ∀ (l : List Int32) (k : Nat), -1 ≤ ixL q l k ∧ ixL q l k ≤ (k : Int) + (l.length : Int)
  | [], k => ⟨by show (-1 : Int) ≤ -1; omega, by show (-1 : Int) ≤ _; omega⟩
  | b :: l, k => by
    have h := ixL_rng (q := q) l (k + 1)
    show -1 ≤ (if b.toInt = q then (k : Int) else ixL q l (k + 1)) ∧ (if b.toInt = q then (k : Int) else ixL q l (k + 1)) ≤ (k : Int) + ((l.length + 1 : Nat) : Int)
    split <;> omega
theorem ixS_rng {si : Nat} {z : Int} (h : si < 11) : -1 ≤ ixS si z ∧ ixS si z ≤ 5 := by
  have q := ixL_rng (q := z) (sbyt.getD si []) 0
  have e : ∀ i, i < 11 → (sbyt.getD i []).length ≤ 5 := by decide
  have e := e si h
  unfold ixS
  omega
theorem c16_k : ∀ k : Nat, k < 256 → c16 (k : Int) = (k : Int) := by decide +kernel
theorem c16_z {z : Int} (h : 0 ≤ z ∧ z ≤ 255) : c16 z = z := by
  obtain ⟨k, rfl⟩ : ∃ k : Nat, z = (k : Int) := ⟨Int.toNat z, by omega⟩
  exact c16_k k (by omega)
set_option maxHeartbeats 8000000 in
theorem c_joins {γ : GT} {d : Nat} {B : Nat → Int} {n s L : Nat} {kd : Int} {h : Nat → Nat → Int} {τ : List AC} {Post : Option AV → List AC → Prop} (hd : 5 ≤ d) (hn : h 84 1 = ((n : Nat) : Int)) (hm : n ≤ 96) (hB : ∀ k, k < n → and32 (h 85 k) 255 = B k) (hBr : ∀ k, 0 ≤ B k ∧ B k ≤ 255) (hs : h 84 2 = ((s : Nat) : Int)) (hk : h 84 4 = kd) (hsn : kd = 3 → s < n) (hL : L < 5) (kT : kd = 3 ∧ 0 ≤ ixS (6 + L) (B s) → Post (some (vI 1)) (mk h τ)) (kF : ¬ (kd = 3 ∧ 0 ≤ ixS (6 + L) (B s)) → Post (some (vI 0)) (mk h τ)) : Cj γ mX3_joinsAt d 0 0 [vA 84, vI ((L : Nat) : Int)] (mk h τ) Post := by
  refine c_of (by decide) (Nat.le_of_ble_eq_true rfl) ?_
  show Aj γ mX3_joinsAt d 0 0 Post 0 [(0, vA 84), (1, vI ((L : Nat) : Int))] [] (mk h τ)
  refine a_aload_n (j := 0) dX3_joinsAt_0 rfl rfl (Nat.le_of_ble_eq_true rfl) ?_
  refine b_get (a := 84) (z := kd) (t := 0) dX3_joinsAt_1 fwX3_30 (by decide) rfl (by decide) rfl rfl hk ?_
  refine a_iconst dX3_joinsAt_4 ⟨by decide, by decide⟩ ?_
  refine a_icmp_ne (tgt := 31) dX3_joinsAt_5 (by decide) (fun c5_1 => ?_) (fun c5_1 => ?_)
  · refine a_iconst dX3_joinsAt_31 ⟨by decide, by decide⟩ ?_
    exact a_zret dX3_joinsAt_32 rfl (by first | exact Or.inl rfl | exact Or.inr rfl | omega) (kF (by omega))
  · refine a_iload_n (j := 1) dX3_joinsAt_8 rfl rfl ?_
    refine a_callS (d' := d - 1) (mc' := 0) (ms' := 0) (mc1 := 0) (ms1 := 0) (st := []) [vI ((L : Nat) : Int)] dX3_joinsAt_9 mwX3_signsOf lkX3_114 rfl (Nat.le_of_ble_eq_true rfl) (by omega) rfl rfl (c_signs (L := L) (by omega) (by omega) ?_)
    show Aj γ mX3_joinsAt d 0 0 Post 12 [(0, vA 84), (1, vI ((L : Nat) : Int))] [vK (2 + 2 * (6 + L))] (mk h τ)
    refine a_aload_n (j := 0) dX3_joinsAt_12 rfl rfl (Nat.le_of_ble_eq_true rfl) ?_
    refine a_aload_n (j := 0) dX3_joinsAt_13 rfl rfl (Nat.le_of_ble_eq_true rfl) ?_
    refine b_get (a := 84) (z := ((s : Nat) : Int)) (t := 0) dX3_joinsAt_14 fwX3_64 (by decide) rfl (by decide) rfl rfl hs ?_
    refine b_callV (d' := d - 1) (mc' := 0) (ms' := 0) (mc1 := 0) (ms1 := 0) (st := [vK (2 + 2 * (6 + L))]) (b := 84) [vI ((s : Nat) : Int)] dX3_joinsAt_17 mwX3_byteAt lkX3_67 (by decide) rfl rc_X3 rfl (Nat.le_of_ble_eq_true rfl) (by omega) rfl rfl (c_byteB (p := s) (B := B) (n := n) (by omega) hn rfl hB hm (by omega) (by omega) ?_)
    show Aj γ mX3_joinsAt d 0 0 Post 20 [(0, vA 84), (1, vI ((L : Nat) : Int))] [vI (B s), vK (2 + 2 * (6 + L))] (mk h τ)
    refine a_i2c (z := (c16 (B s))) dX3_joinsAt_20 rfl ?_
    refine a_callK (d' := d - 1) (mc' := 0) (ms' := 0) (mc1 := 0) (ms1 := 0) (st := []) (i := (6 + L)) [vI (c16 (B s))] dX3_joinsAt_21 mwJ0_indexOf_0f7a4 lkX3_117 (by omega) rfl rfl (Nat.le_of_ble_eq_true rfl) (by omega) rfl rfl (c_ix1 (si := (6 + L)) (z := (c16 (B s))) (by omega) (by omega) (by rw [c16_z (hBr _)]; exact hBr _) ?_)
    rw [c16_z (hBr _)]
    show Aj γ mX3_joinsAt d 0 0 Post 24 [(0, vA 84), (1, vI ((L : Nat) : Int))] [vI (ixS (6 + L) (B s))] (mk h τ)
    refine a_if_lt (tgt := 31) dX3_joinsAt_24 (by decide) (fun c24_2 => ?_) (fun c24_2 => ?_)
    · refine a_iconst dX3_joinsAt_31 ⟨by decide, by decide⟩ ?_
      exact a_zret dX3_joinsAt_32 rfl (by first | exact Or.inl rfl | exact Or.inr rfl | omega) (kF (by omega))
    · refine a_iconst dX3_joinsAt_27 ⟨by decide, by decide⟩ ?_
      refine a_goto (tgt := 32) dX3_joinsAt_28 (by decide) ?_
      exact a_zret dX3_joinsAt_32 rfl (by first | exact Or.inl rfl | exact Or.inr rfl | omega) (kT (by omega))
set_option maxHeartbeats 8000000 in
theorem c_nameH {γ : GT} {d : Nat} {B : Nat → Int} {n s e K : Nat} {h : Nat → Nat → Int} {τ : List AC} {Post : Option AV → List AC → Prop} (hd : 5 ≤ d) (hn : h 84 1 = ((n : Nat) : Int)) (hm : n ≤ 96) (hB : ∀ k, k < n → and32 (h 85 k) 255 = B k) (hBr : ∀ k, 0 ≤ B k ∧ B k ≤ 255) (hs : h 84 2 = ((s : Nat) : Int)) (he : h 84 3 = ((e : Nat) : Int)) (hK : h 84 5 = ((K : Nat) : Int)) (hse : s < e ∧ e ≤ n) (hK3 : K < 3) (kT : e = s + 1 ∧ 0 ≤ ixS (3 + K) (B s) → Post (some (vI (10000 + ixS (3 + K) (B s)))) (mk h τ)) (kF : ¬ (e = s + 1 ∧ 0 ≤ ixS (3 + K) (B s)) → Post (some (vI (-1000000005))) (mk h τ)) : Cj γ mX3_nameHere d 0 0 [vA 84] (mk h τ) Post := by
  have hxr := ixS_rng (si := 3 + K) (z := B s) (by omega)
  refine c_of (by decide) (Nat.le_of_ble_eq_true rfl) ?_
  show Aj γ mX3_nameHere d 0 0 Post 0 [(0, vA 84)] [] (mk h τ)
  refine a_aload_n (j := 0) dX3_nameHere_0 rfl rfl (Nat.le_of_ble_eq_true rfl) ?_
  refine b_get (a := 84) (z := ((e : Nat) : Int)) (t := 0) dX3_nameHere_1 fwX3_27 (by decide) rfl (by decide) rfl rfl he ?_
  refine a_aload_n (j := 0) dX3_nameHere_4 rfl rfl (Nat.le_of_ble_eq_true rfl) ?_
  refine b_get (a := 84) (z := ((s : Nat) : Int)) (t := 0) dX3_nameHere_5 fwX3_64 (by decide) rfl (by decide) rfl rfl hs ?_
  refine a_isub (z := (((e : Nat) : Int) - ((s : Nat) : Int))) dX3_nameHere_8 (w_ok (by omega) (by omega)) ?_
  refine a_iconst dX3_nameHere_9 ⟨by decide, by decide⟩ ?_
  refine a_icmp_ne (tgt := 35) dX3_nameHere_10 (by decide) (fun c10_1 => ?_) (fun c10_1 => ?_)
  · refine a_iconst dX3_nameHere_35 ⟨by decide, by decide⟩ ?_
    refine a_istore_n (lv' := [(1, vI (-1)), (0, vA 84)]) dX3_nameHere_36 rfl (by decide) rfl ?_
    refine a_iload_n (j := 0) dX3_nameHere_37 rfl rfl ?_
    refine a_if_ge (tgt := 46) dX3_nameHere_38 (by decide) (fun c => absurd c (by decide)) (fun _ => ?_)
    refine a_ldc (z := (-1000000005)) dX3_nameHere_41 kwX3_49 ⟨by decide, by decide, by decide⟩ ?_
    refine a_goto (tgt := 51) dX3_nameHere_43 (by decide) ?_
    exact a_iret dX3_nameHere_51 rfl (kF (by omega))
  · refine a_aload_n (j := 0) dX3_nameHere_13 rfl rfl (Nat.le_of_ble_eq_true rfl) ?_
    refine b_get (a := 84) (z := ((K : Nat) : Int)) (t := 0) dX3_nameHere_14 fwX3_46 (by decide) rfl (by decide) rfl rfl hK ?_
    refine a_callS (d' := d - 1) (mc' := 0) (ms' := 0) (mc1 := 0) (ms1 := 0) (st := []) [vI ((K : Nat) : Int)] dX3_nameHere_17 mwX3_namesOf lkX3_139 rfl (Nat.le_of_ble_eq_true rfl) (by omega) rfl rfl (c_names (L := K) (by omega) (by omega) ?_)
    show Aj γ mX3_nameHere d 0 0 Post 20 [(0, vA 84)] [vK (2 + 2 * (3 + K))] (mk h τ)
    refine a_aload_n (j := 0) dX3_nameHere_20 rfl rfl (Nat.le_of_ble_eq_true rfl) ?_
    refine a_aload_n (j := 0) dX3_nameHere_21 rfl rfl (Nat.le_of_ble_eq_true rfl) ?_
    refine b_get (a := 84) (z := ((s : Nat) : Int)) (t := 0) dX3_nameHere_22 fwX3_64 (by decide) rfl (by decide) rfl rfl hs ?_
    refine b_callV (d' := d - 1) (mc' := 0) (ms' := 0) (mc1 := 0) (ms1 := 0) (st := [vK (2 + 2 * (3 + K))]) (b := 84) [vI ((s : Nat) : Int)] dX3_nameHere_25 mwX3_byteAt lkX3_67 (by decide) rfl rc_X3 rfl (Nat.le_of_ble_eq_true rfl) (by omega) rfl rfl (c_byteB (p := s) (B := B) (n := n) (by omega) hn rfl hB hm (by omega) (by omega) ?_)
    show Aj γ mX3_nameHere d 0 0 Post 28 [(0, vA 84)] [vI (B s), vK (2 + 2 * (3 + K))] (mk h τ)
    refine a_i2c (z := (c16 (B s))) dX3_nameHere_28 rfl ?_
    refine a_callK (d' := d - 1) (mc' := 0) (ms' := 0) (mc1 := 0) (ms1 := 0) (st := []) (i := (3 + K)) [vI (c16 (B s))] dX3_nameHere_29 mwJ0_indexOf_0f7a4 lkX3_117 (by omega) rfl rfl (Nat.le_of_ble_eq_true rfl) (by omega) rfl rfl (c_ix1 (si := (3 + K)) (z := (c16 (B s))) (by omega) (by omega) (by rw [c16_z (hBr _)]; exact hBr _) ?_)
    rw [c16_z (hBr _)]
    show Aj γ mX3_nameHere d 0 0 Post 32 [(0, vA 84)] [vI (ixS (3 + K) (B s))] (mk h τ)
    refine a_goto (tgt := 36) dX3_nameHere_32 (by decide) ?_
    refine a_istore_n (lv' := [(1, vI (ixS (3 + K) (B s))), (0, vA 84)]) dX3_nameHere_36 rfl (by decide) rfl ?_
    refine a_iload_n (j := 0) dX3_nameHere_37 rfl rfl ?_
    refine a_if_ge (tgt := 46) dX3_nameHere_38 (by decide) (fun c38_2 => ?_) (fun c38_2 => ?_)
    · refine a_sipush dX3_nameHere_46 ⟨by decide, by decide, by decide⟩ ?_
      refine a_iload_n (j := 0) dX3_nameHere_49 rfl rfl ?_
      refine a_iadd (z := (10000 + (ixS (3 + K) (B s)))) dX3_nameHere_50 (w_ok (by omega) (by omega)) ?_
      exact a_iret dX3_nameHere_51 rfl (kT (by omega))
    · refine a_ldc (z := (-1000000005)) dX3_nameHere_41 kwX3_49 ⟨by decide, by decide, by decide⟩ ?_
      refine a_goto (tgt := 51) dX3_nameHere_43 (by decide) ?_
      exact a_iret dX3_nameHere_51 rfl (kF (by omega))
theorem sg_by : ∀ L, L < 5 → ∀ b, b ∈ sbyt.getD (6 + L) [] → (b.toInt = 124 ∨ b.toInt = 38 ∨ b.toInt = 60 ∨ b.toInt = 61 ∨ b.toInt = 62 ∨ b.toInt = 43 ∨ b.toInt = 45 ∨ b.toInt = 42 ∨ b.toInt = 47) := by decide
theorem jn_ix {L : Nat} (hL : L < 5) {z : Int} : 0 ≤ ixS (6 + L) z ↔ (¬ sgF z = 0 ∧ rkF (sgF z) = (L : Int) + 1) := by
  have hz : z = 124 ∨ z = 38 ∨ z = 60 ∨ z = 61 ∨ z = 62 ∨ z = 43 ∨ z = 45 ∨ z = 42 ∨ z = 47 ∨ (¬ z = 124 ∧ ¬ z = 38 ∧ ¬ z = 60 ∧ ¬ z = 61 ∧ ¬ z = 62 ∧ ¬ z = 43 ∧ ¬ z = 45 ∧ ¬ z = 42 ∧ ¬ z = 47) := by omega
  rcases hz with hz | hz | hz | hz | hz | hz | hz | hz | hz | hz
  · subst hz; rcases (by omega : L = 0 ∨ L = 1 ∨ L = 2 ∨ L = 3 ∨ L = 4) with h | h | h | h | h <;> subst h <;> decide +kernel
  · subst hz; rcases (by omega : L = 0 ∨ L = 1 ∨ L = 2 ∨ L = 3 ∨ L = 4) with h | h | h | h | h <;> subst h <;> decide +kernel
  · subst hz; rcases (by omega : L = 0 ∨ L = 1 ∨ L = 2 ∨ L = 3 ∨ L = 4) with h | h | h | h | h <;> subst h <;> decide +kernel
  · subst hz; rcases (by omega : L = 0 ∨ L = 1 ∨ L = 2 ∨ L = 3 ∨ L = 4) with h | h | h | h | h <;> subst h <;> decide +kernel
  · subst hz; rcases (by omega : L = 0 ∨ L = 1 ∨ L = 2 ∨ L = 3 ∨ L = 4) with h | h | h | h | h <;> subst h <;> decide +kernel
  · subst hz; rcases (by omega : L = 0 ∨ L = 1 ∨ L = 2 ∨ L = 3 ∨ L = 4) with h | h | h | h | h <;> subst h <;> decide +kernel
  · subst hz; rcases (by omega : L = 0 ∨ L = 1 ∨ L = 2 ∨ L = 3 ∨ L = 4) with h | h | h | h | h <;> subst h <;> decide +kernel
  · subst hz; rcases (by omega : L = 0 ∨ L = 1 ∨ L = 2 ∨ L = 3 ∨ L = 4) with h | h | h | h | h <;> subst h <;> decide +kernel
  · subst hz; rcases (by omega : L = 0 ∨ L = 1 ∨ L = 2 ∨ L = 3 ∨ L = 4) with h | h | h | h | h <;> subst h <;> decide +kernel
  · have e : ixS (6 + L) z = -1 := ixL_o _ _ (fun b hb e => by have := sg_by L hL b hb; omega)
    have e2 : sgF z = 0 := by
      unfold sgF
      obtain ⟨a0, a1, a2, a3, a4, a5, a6, a7, a8⟩ := hz
      rw [if_neg a0, if_neg a1, if_neg a2, if_neg a3, if_neg a4, if_neg a5, if_neg a6, if_neg a7, if_neg a8]
    constructor
    · intro q; omega
    · intro q; exact absurd e2 q.1
theorem nm_by : ∀ K, K < 3 → ∀ b, b ∈ sbyt.getD (3 + K) [] → (b.toInt = 107 ∨ b.toInt = 110 ∨ b.toInt = 100 ∨ b.toInt = 115 ∨ b.toInt = 119) := by decide
theorem nm_ix {K : Nat} (hK : K < 3) {z : Int} : ixS (3 + K) z = nmF (K : Int) z := by
  have hz : z = 107 ∨ z = 110 ∨ z = 100 ∨ z = 115 ∨ z = 119 ∨ (¬ z = 107 ∧ ¬ z = 110 ∧ ¬ z = 100 ∧ ¬ z = 115 ∧ ¬ z = 119) := by omega
  rcases hz with hz | hz | hz | hz | hz | hz
  · subst hz; rcases (by omega : K = 0 ∨ K = 1 ∨ K = 2) with h | h | h <;> subst h <;> decide +kernel
  · subst hz; rcases (by omega : K = 0 ∨ K = 1 ∨ K = 2) with h | h | h <;> subst h <;> decide +kernel
  · subst hz; rcases (by omega : K = 0 ∨ K = 1 ∨ K = 2) with h | h | h <;> subst h <;> decide +kernel
  · subst hz; rcases (by omega : K = 0 ∨ K = 1 ∨ K = 2) with h | h | h <;> subst h <;> decide +kernel
  · subst hz; rcases (by omega : K = 0 ∨ K = 1 ∨ K = 2) with h | h | h <;> subst h <;> decide +kernel
  · have e : ixS (3 + K) z = -1 := ixL_o _ _ (fun b hb e => by have := nm_by K hK b hb; omega)
    rw [e]
    obtain ⟨a0, a1, a2, a3, a4⟩ := hz
    unfold nmF
    repeat' split
    all_goals omega
set_option maxHeartbeats 8000000 in
theorem l_num {γ : GT} {d : Nat} {B : Nat → Int} {n s e : Nat} {h : Nat → Nat → Int} {τ : List AC} {Post : Option AV → List AC → Prop} (hd : 2 ≤ d) (hn : h 84 1 = ((n : Nat) : Int)) (hm : n ≤ 96) (hB : ∀ k, k < n → and32 (h 85 k) 255 = B k) (hBr : ∀ k, 0 ≤ B k ∧ B k ≤ 255) (hs : h 84 2 = ((s : Nat) : Int)) (he : h 84 3 = ((e : Nat) : Int)) (hse : s < e ∧ e ≤ n) (hdg : ∀ j, s ≤ j → j < e → 48 ≤ B j ∧ B j ≤ 57) (h4 : e - s ≤ 4) (kQ : Post (some (vI (numF B s (e - s)))) (mk h τ)) :
    ∀ (f i : Nat) (m : Int), i ≤ (e - s) → (e - s) < i + f → (m = numF B s i) → Aj γ mX3_numberHere d 0 0 Post 23 [(2, vI (((s + i) : Nat) : Int)), (1, vI m), (0, vA 84)] [] (mk h τ) := by
  intro f
  induction f with
  | zero => intro i m h1_ h2_; omega
  | succ f ih =>
    intro i m h1_ h2_ iv
    have hnr := num_4 (B := B) (s := s) (m := i) (by omega) (fun j hj => hdg (s + j) (by omega) (by omega))
    rw [← iv] at hnr
    have hbi := hBr (i + s)
    refine a_iload_n (j := 0) dX3_numberHere_23 rfl rfl ?_
    refine a_aload_n (j := 2) dX3_numberHere_24 rfl rfl (Nat.le_of_ble_eq_true rfl) ?_
    refine b_get (a := 84) (z := ((e : Nat) : Int)) (t := 0) dX3_numberHere_25 fwX3_27 (by decide) rfl (by decide) rfl rfl he ?_
    refine a_icmp_ge (tgt := 51) dX3_numberHere_28 (by decide) (fun c28_1 => ?_) (fun c28_1 => ?_)
    · refine a_iload_n (j := 1) dX3_numberHere_51 rfl rfl ?_
      exact a_iret dX3_numberHere_52 rfl (post_v kQ (by have e1 : e - s = i := (by omega); rw [e1, iv]))
    · refine a_bipush dX3_numberHere_31 ⟨by decide, by decide, by decide⟩ ?_
      refine a_iload_n (j := 1) dX3_numberHere_33 rfl rfl ?_
      refine a_imul (z := (10 * m)) dX3_numberHere_34 (w_ok (by omega) (by omega)) ?_
      refine a_aload_n (j := 2) dX3_numberHere_35 rfl rfl (Nat.le_of_ble_eq_true rfl) ?_
      refine a_iload_n (j := 0) dX3_numberHere_36 rfl rfl ?_
      refine b_callV (d' := d - 1) (mc' := 0) (ms' := 0) (mc1 := 0) (ms1 := 0) (st := [vI (10 * m)]) (b := 84) [vI (((s + i) : Nat) : Int)] dX3_numberHere_37 mwX3_byteAt lkX3_67 (by decide) rfl rc_X3 rfl (Nat.le_of_ble_eq_true rfl) (by omega) rfl rfl (c_byteB (p := (i + s)) (B := B) (n := n) (by omega) hn rfl hB hm (by omega) (by omega) ?_)
      show Aj γ mX3_numberHere d 0 0 Post 40 [(2, vI (((s + i) : Nat) : Int)), (1, vI m), (0, vA 84)] [vI (B (i + s)), vI (10 * m)] (mk h τ)
      refine a_iadd (z := ((10 * m) + (B (i + s)))) dX3_numberHere_40 (w_ok (by omega) (by omega)) ?_
      refine a_bipush dX3_numberHere_41 ⟨by decide, by decide, by decide⟩ ?_
      refine a_isub (z := (((10 * m) + (B (i + s))) - 48)) dX3_numberHere_43 (w_ok (by omega) (by omega)) ?_
      refine a_istore_n (lv' := [(1, vI (((10 * m) + (B (i + s))) - 48)), (2, vI (((s + i) : Nat) : Int)), (0, vA 84)]) dX3_numberHere_44 rfl (by decide) rfl ?_
      refine a_iinc (j := 1) (z' := (((s + i) + 1 : Nat) : Int)) (lv' := [(2, vI (((s + i) + 1 : Nat) : Int)), (1, vI (((10 * m) + (B (i + s))) - 48)), (0, vA 84)]) dX3_numberHere_45 rfl (w_okN (by omega) (by omega) (by omega)) (by decide) rfl ?_
      refine a_goto (tgt := 23) dX3_numberHere_48 (by decide) ?_
      rw [show s + i + 1 = s + (i + 1) by omega]
      refine a_lv (lv' := [(2, vI (((s + (i + 1)) : Nat) : Int)), (1, vI (((10 * m) + (B (i + s))) - 48)), (0, vA 84)]) (by intro q hq; simp only [List.mem_cons, List.not_mem_nil, or_false] at hq ⊢; rcases hq with rfl | rfl | rfl <;> simp) (ih (i + 1) (((10 * m) + (B (i + s))) - 48) (by omega) (by omega) (by rw [iv]; show _ = 10 * numF B s i + B (s + i) - 48; rw [Nat.add_comm i s]))
set_option maxHeartbeats 8000000 in
theorem c_numH {γ : GT} {d : Nat} {B : Nat → Int} {n s e : Nat} {h : Nat → Nat → Int} {τ : List AC} {Post : Option AV → List AC → Prop} (hd : 2 ≤ d) (hn : h 84 1 = ((n : Nat) : Int)) (hm : n ≤ 96) (hB : ∀ k, k < n → and32 (h 85 k) 255 = B k) (hBr : ∀ k, 0 ≤ B k ∧ B k ≤ 255) (hs : h 84 2 = ((s : Nat) : Int)) (he : h 84 3 = ((e : Nat) : Int)) (hse : s < e ∧ e ≤ n) (hdg : ∀ j, s ≤ j → j < e → 48 ≤ B j ∧ B j ≤ 57) (kT : e - s ≤ 4 → Post (some (vI (numF B s (e - s)))) (mk h τ)) (kF : ¬ e - s ≤ 4 → Post (some (vI (-1000000005))) (mk h τ)) : Cj γ mX3_numberHere d 0 0 [vA 84] (mk h τ) Post := by
  refine c_of (by decide) (Nat.le_of_ble_eq_true rfl) ?_
  show Aj γ mX3_numberHere d 0 0 Post 0 [(0, vA 84)] [] (mk h τ)
  refine a_aload_n (j := 0) dX3_numberHere_0 rfl rfl (Nat.le_of_ble_eq_true rfl) ?_
  refine b_get (a := 84) (z := ((e : Nat) : Int)) (t := 0) dX3_numberHere_1 fwX3_27 (by decide) rfl (by decide) rfl rfl he ?_
  refine a_aload_n (j := 0) dX3_numberHere_4 rfl rfl (Nat.le_of_ble_eq_true rfl) ?_
  refine b_get (a := 84) (z := ((s : Nat) : Int)) (t := 0) dX3_numberHere_5 fwX3_64 (by decide) rfl (by decide) rfl rfl hs ?_
  refine a_isub (z := (((e : Nat) : Int) - ((s : Nat) : Int))) dX3_numberHere_8 (w_ok (by omega) (by omega)) ?_
  refine a_iconst dX3_numberHere_9 ⟨by decide, by decide⟩ ?_
  refine a_icmp_le (tgt := 16) dX3_numberHere_10 (by decide) (fun c10_1 => ?_) (fun c10_1 => ?_)
  · refine a_iconst dX3_numberHere_16 ⟨by decide, by decide⟩ ?_
    refine a_istore_n (lv' := [(1, vI 0), (0, vA 84)]) dX3_numberHere_17 rfl (by decide) rfl ?_
    refine a_aload_n (j := 1) dX3_numberHere_18 rfl rfl (Nat.le_of_ble_eq_true rfl) ?_
    refine b_get (a := 84) (z := ((s : Nat) : Int)) (t := 0) dX3_numberHere_19 fwX3_64 (by decide) rfl (by decide) rfl rfl hs ?_
    refine a_istore_n (lv' := [(2, vI ((s : Nat) : Int)), (1, vI 0), (0, vA 84)]) dX3_numberHere_22 rfl (by decide) rfl ?_
    exact a_lv (lv' := [(2, vI (((s + 0) : Nat) : Int)), (1, vI 0), (0, vA 84)]) (by intro q hq; simp only [List.mem_cons, List.not_mem_nil, or_false] at hq ⊢; rcases hq with rfl | rfl | rfl <;> simp) (l_num (h := h) (B := B) (n := n) (by omega) hn hm hB hBr hs he hse hdg (by omega) (kT (by omega)) (e - s + 1) 0 0 (by omega) (by omega) rfl)
  · refine a_ldc (z := (-1000000005)) dX3_numberHere_13 kwX3_49 ⟨by decide, by decide, by decide⟩ ?_
    exact a_iret dX3_numberHere_15 rfl (kF (by omega))
