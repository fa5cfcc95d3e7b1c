/-- the token s..e is the constant si -/
def wdS (B : Nat → Int) (s e si : Nat) : Prop := e - s = slen.getD si 0 ∧ ∀ k, k < slen.getD si 0 → B (s + k) = ((sbyt.getD si []).getD k 0).toInt
set_option maxHeartbeats 8000000 in
theorem l_word {γ : GT} {d : Nat} {B : Nat → Int} {n s e si : Nat} {h : Nat → Nat → Int} {τ : List AC} {Post : Option AV → List AC → Prop} (hd : 5 ≤ d) (hn : h 84 1 = ((n : Nat) : Int)) (hm : n ≤ 96) (hB : ∀ k, k < n → and32 (h 85 k) 255 = B k) (hBr : ∀ k, 0 ≤ B k ∧ B k ≤ 255) (hs : h 84 2 = ((s : Nat) : Int)) (he : h 84 3 = ((e : Nat) : Int)) (hse : s < e ∧ e ≤ n) (hsi : si < 11) (hl : e - s = slen.getD si 0) (kT : wdS B s e si → Post (some (vI 1)) (mk h τ)) (kF : ¬ wdS B s e si → Post (some (vI 0)) (mk h τ)) :
    ∀ (f i : Nat) , i ≤ (slen.getD si 0) → (slen.getD si 0) < i + f → (∀ k, k < i → B (s + k) = ((sbyt.getD si []).getD k 0).toInt) → Aj γ mX3_isWord d 0 0 Post 20 [(2, vI ((i : Nat) : Int)), (0, vA 84), (1, vK (2 + 2 * si))] [] (mk h τ) := by
  intro f
  induction f with
  | zero => intro i  h1_ h2_; omega
  | succ f ih =>
    intro i  h1_ h2_ iv
    refine a_iload_n (j := 0) dX3_isWord_20 rfl rfl ?_
    refine a_aload_n (j := 2) dX3_isWord_21 rfl rfl (Nat.le_of_ble_eq_true rfl) ?_
    refine a_callK (d' := d - 1) (mc' := 0) (ms' := 0) (mc1 := 0) (ms1 := 0) (st := [vI ((i : Nat) : Int)]) (i := si) [] dX3_isWord_22 mwJ0_length_8abf5 lkX3_94 (by omega) rfl rfl (Nat.le_of_ble_eq_true rfl) (by omega) rfl rfl (c_strlen (by omega) hsi ?_)
    show Aj γ mX3_isWord d 0 0 Post 25 [(2, vI ((i : Nat) : Int)), (0, vA 84), (1, vK (2 + 2 * si))] [vI ((slen.getD si 0 : Nat) : Int), vI ((i : Nat) : Int)] (mk h τ)
    refine a_icmp_ge (tgt := 54) dX3_isWord_25 (by decide) (fun c25_1 => ?_) (fun c25_1 => ?_)
    · refine a_iconst dX3_isWord_54 ⟨by decide, by decide⟩ ?_
      exact a_zret dX3_isWord_55 rfl (by first | exact Or.inl rfl | exact Or.inr rfl | omega) (kT ⟨hl, fun k hk => iv k (by omega)⟩)
    · refine a_aload_n (j := 1) dX3_isWord_28 rfl rfl (Nat.le_of_ble_eq_true rfl) ?_
      refine a_aload_n (j := 1) dX3_isWord_29 rfl rfl (Nat.le_of_ble_eq_true rfl) ?_
      refine b_get (a := 84) (z := ((s : Nat) : Int)) (t := 0) dX3_isWord_30 fwX3_64 (by decide) rfl (by decide) rfl rfl hs ?_
      refine a_iload_n (j := 0) dX3_isWord_33 rfl rfl ?_
      refine a_iadd (z := (((s : Nat) : Int) + ((i : Nat) : Int))) dX3_isWord_34 (w_ok (by omega) (by omega)) ?_
      refine b_callV (d' := d - 1) (mc' := 0) (ms' := 0) (mc1 := 0) (ms1 := 0) (st := []) (b := 84) [vI (((s : Nat) : Int) + ((i : Nat) : Int))] dX3_isWord_35 mwX3_byteAt lkX3_67 (by decide) rfl rc_X3 rfl (Nat.le_of_ble_eq_true rfl) (by omega) rfl rfl (c_byteB (p := (i + s)) (B := B) (n := n) (by omega) hn rfl hB hm (by omega) (by omega) ?_)
      show Aj γ mX3_isWord d 0 0 Post 38 [(2, vI ((i : Nat) : Int)), (0, vA 84), (1, vK (2 + 2 * si))] [vI (B (i + s))] (mk h τ)
      refine a_aload_n (j := 2) dX3_isWord_38 rfl rfl (Nat.le_of_ble_eq_true rfl) ?_
      refine a_iload_n (j := 0) dX3_isWord_39 rfl rfl ?_
      refine a_callK (d' := d - 1) (mc' := 0) (ms' := 0) (mc1 := 0) (ms1 := 0) (st := [vI (B (i + s))]) (i := si) [vI ((i : Nat) : Int)] dX3_isWord_40 mwJ0_charAt_5068e lkX3_98 (by omega) rfl rfl (Nat.le_of_ble_eq_true rfl) (by omega) rfl rfl (c_char (si := si) (k := i) (by omega) hsi (by omega) ?_)
      show Aj γ mX3_isWord d 0 0 Post 43 [(2, vI ((i : Nat) : Int)), (0, vA 84), (1, vK (2 + 2 * si))] [vI (((sbyt.getD si []).getD i 0).toInt), vI (B (i + s))] (mk h τ)
      refine a_icmp_eq (tgt := 48) dX3_isWord_43 (by decide) (fun c43_2 => ?_) (fun c43_2 => ?_)
      · refine a_iinc (j := 0) (z' := ((i + 1 : Nat) : Int)) (lv' := [(2, vI ((i + 1 : Nat) : Int)), (0, vA 84), (1, vK (2 + 2 * si))]) dX3_isWord_48 rfl (w_okN (by omega) (by omega) (by omega)) (by decide) rfl ?_
        refine a_goto (tgt := 20) dX3_isWord_51 (by decide) ?_
        refine a_lv (lv' := [(2, vI (((i + 1) : Nat) : Int)), (0, vA 84), (1, vK (2 + 2 * si))]) (by intro q hq; simp only [List.mem_cons, List.not_mem_nil, or_false] at hq ⊢; rcases hq with rfl | rfl | rfl <;> simp) (ih (i + 1)  (by omega) (by omega) (fun k hk => by
          by_cases c : k = i
          · subst c; rw [Nat.add_comm s k]; omega
          · exact iv k (by omega)))
      · refine a_iconst dX3_isWord_46 ⟨by decide, by decide⟩ ?_
        exact a_zret dX3_isWord_47 rfl (by first | exact Or.inl rfl | exact Or.inr rfl | omega) (kF (fun q => by have q2 := q.2 i (by omega); rw [Nat.add_comm s i] at q2; omega))
set_option maxHeartbeats 8000000 in
theorem c_isWord {γ : GT} {d : Nat} {B : Nat → Int} {n s e si : Nat} {h : Nat → Nat → Int} {τ : List AC} {Post : Option AV → List AC → Prop} (hd : 5 ≤ d) (hn : h 84 1 = ((n : Nat) : Int)) (hm : n ≤ 96) (hB : ∀ k, k < n → and32 (h 85 k) 255 = B k) (hBr : ∀ k, 0 ≤ B k ∧ B k ≤ 255) (hs : h 84 2 = ((s : Nat) : Int)) (he : h 84 3 = ((e : Nat) : Int)) (hse : s < e ∧ e ≤ n) (hsi : si < 11) (kT : wdS B s e si → Post (some (vI 1)) (mk h τ)) (kF : ¬ wdS B s e si → Post (some (vI 0)) (mk h τ)) : Cj γ mX3_isWord d 0 0 [vA 84, vK (2 + 2 * si)] (mk h τ) Post := by
  refine c_of (by decide) (Nat.le_of_ble_eq_true rfl) ?_
  show Aj γ mX3_isWord d 0 0 Post 0 [(0, vA 84), (1, vK (2 + 2 * si))] [] (mk h τ)
  refine a_aload_n (j := 0) dX3_isWord_0 rfl rfl (Nat.le_of_ble_eq_true rfl) ?_
  refine b_get (a := 84) (z := ((e : Nat) : Int)) (t := 0) dX3_isWord_1 fwX3_27 (by decide) rfl (by decide) rfl rfl he ?_
  refine a_aload_n (j := 0) dX3_isWord_4 rfl rfl (Nat.le_of_ble_eq_true rfl) ?_
  refine b_get (a := 84) (z := ((s : Nat) : Int)) (t := 0) dX3_isWord_5 fwX3_64 (by decide) rfl (by decide) rfl rfl hs ?_
  refine a_isub (z := (((e : Nat) : Int) - ((s : Nat) : Int))) dX3_isWord_8 (w_ok (by omega) (by omega)) ?_
  refine a_aload_n (j := 1) dX3_isWord_9 rfl rfl (Nat.le_of_ble_eq_true rfl) ?_
  refine a_callK (d' := d - 1) (mc' := 0) (ms' := 0) (mc1 := 0) (ms1 := 0) (st := [vI (((e : Nat) : Int) - ((s : Nat) : Int))]) (i := si) [] dX3_isWord_10 mwJ0_length_8abf5 lkX3_94 (by omega) rfl rfl (Nat.le_of_ble_eq_true rfl) (by omega) rfl rfl (c_strlen (by omega) hsi ?_)
  show Aj γ mX3_isWord d 0 0 Post 13 [(0, vA 84), (1, vK (2 + 2 * si))] [vI ((slen.getD si 0 : Nat) : Int), vI (((e : Nat) : Int) - ((s : Nat) : Int))] (mk h τ)
  refine a_icmp_eq (tgt := 18) dX3_isWord_13 (by decide) (fun c13_1 => ?_) (fun c13_1 => ?_)
  · refine a_iconst dX3_isWord_18 ⟨by decide, by decide⟩ ?_
    refine a_istore_n (lv' := [(2, vI 0), (0, vA 84), (1, vK (2 + 2 * si))]) dX3_isWord_19 rfl (by decide) rfl ?_
    exact a_lv (lv' := [(2, vI ((0 : Nat) : Int)), (0, vA 84), (1, vK (2 + 2 * si))]) (by intro q hq; simp only [List.mem_cons, List.not_mem_nil, or_false] at hq ⊢; rcases hq with rfl | rfl | rfl <;> simp) (l_word (h := h) (B := B) (n := n) hd hn hm hB hBr hs he hse hsi (by omega) kT kF (slen.getD si 0 + 1) 0 (by omega) (by omega) (fun k hk => by omega))
  · refine a_iconst dX3_isWord_16 ⟨by decide, by decide⟩ ?_
    exact a_zret dX3_isWord_17 rfl (by first | exact Or.inl rfl | exact Or.inr rfl | omega) (kF (fun q => by have q1 := q.1; omega))
