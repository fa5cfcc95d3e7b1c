set_option maxHeartbeats 8000000 in
theorem l_key {γ : GT} {d : Nat} {B : Nat → Int} {n s e : Nat} {kd : Int} {h : Nat → Nat → Int} {τ : List AC} {Post : Option AV → List AC → Prop} (hd : 6 ≤ d) (hn : h 84 1 = ((n : Nat) : Int)) (hm : n ≤ 96) (hB : ∀ k, k < n → and32 (h 85 k) 255 = B k) (hBr : ∀ k, 0 ≤ B k ∧ B k ≤ 255) (hs : h 84 2 = ((s : Nat) : Int)) (he : h 84 3 = ((e : Nat) : Int)) (hk : h 84 4 = kd) (hse : kd = 1 → s < e ∧ e ≤ n) (kS : ∀ K : Nat, K < 3 → kd = 1 → wdS B s e K → (∀ j, j < K → ¬ wdS B s e j) → Post (some (vI ((K : Nat) : Int))) (mk h τ)) (kN : (∀ j, j < 3 → ¬ (kd = 1 ∧ wdS B s e j)) → Post (some (vI (-1000000005))) (mk h τ)) :
    ∀ (f i : Nat) , i ≤ 3 → 3 < i + f → (∀ j, j < i → ¬ (kd = 1 ∧ wdS B s e j)) → Aj γ mX3_keyHere d 0 0 Post 2 [(1, vI ((i : Nat) : Int)), (0, vA 84)] [] (mk h τ) := by
  intro f
  induction f with
  | zero => intro i  h1_ h2_; omega
  | succ f ih =>
    intro i  h1_ h2_ iv
    refine a_iload_n (j := 0) dX3_keyHere_2 rfl rfl ?_
    refine a_iconst dX3_keyHere_3 ⟨by decide, by decide⟩ ?_
    refine a_icmp_ge (tgt := 34) dX3_keyHere_4 (by decide) (fun c4_1 => ?_) (fun c4_1 => ?_)
    · refine a_ldc (z := (-1000000005)) dX3_keyHere_34 kwX3_49 ⟨by decide, by decide, by decide⟩ ?_
      exact a_iret dX3_keyHere_36 rfl (kN (fun j hj => iv j (by omega)))
    · refine a_aload_n (j := 1) dX3_keyHere_7 rfl rfl (Nat.le_of_ble_eq_true rfl) ?_
      refine b_get (a := 84) (z := kd) (t := 0) dX3_keyHere_8 fwX3_30 (by decide) rfl (by decide) rfl rfl hk ?_
      refine a_iconst dX3_keyHere_11 ⟨by decide, by decide⟩ ?_
      refine a_icmp_ne (tgt := 28) dX3_keyHere_12 (by decide) (fun c12_2 => ?_) (fun c12_2 => ?_)
      · refine a_iinc (j := 0) (z' := ((i + 1 : Nat) : Int)) (lv' := [(1, vI ((i + 1 : Nat) : Int)), (0, vA 84)]) dX3_keyHere_28 rfl (w_okN (by omega) (by omega) (by omega)) (by decide) rfl ?_
        refine a_goto (tgt := 2) dX3_keyHere_31 (by decide) ?_
        refine a_lv (lv' := [(1, vI (((i + 1) : Nat) : Int)), (0, vA 84)]) (by intro q hq; simp only [List.mem_cons, List.not_mem_nil, or_false] at hq ⊢; rcases hq with rfl | rfl <;> simp) (ih (i + 1)  (by omega) (by omega) (fun j hj => by
          by_cases c : j = i
          · subst c; intro q; first | omega | exact absurd q.2 (by assumption)
          · exact iv j (by omega)))
      · refine a_aload_n (j := 1) dX3_keyHere_15 rfl rfl (Nat.le_of_ble_eq_true rfl) ?_
        refine a_iload_n (j := 0) dX3_keyHere_16 rfl rfl ?_
        refine a_callS (d' := d - 1) (mc' := 0) (ms' := 0) (mc1 := 0) (ms1 := 0) (st := [vA 84]) [vI ((i : Nat) : Int)] dX3_keyHere_17 mwX3_wordOf lkX3_74 rfl (Nat.le_of_ble_eq_true rfl) (by omega) rfl rfl (c_words (L := i) (by omega) (by omega) ?_)
        show Aj γ mX3_keyHere d 0 0 Post 20 [(1, vI ((i : Nat) : Int)), (0, vA 84)] [vK (2 + 2 * (0 + i)), vA 84] (mk h τ)
        refine b_callV (d' := d - 1) (mc' := 0) (ms' := 0) (mc1 := 0) (ms1 := 0) (st := []) (b := 84) [vK (2 + 2 * (0 + i))] dX3_keyHere_20 mwX3_isWord lkX3_78 (by decide) rfl rc_X3 rfl (Nat.le_of_ble_eq_true rfl) (by omega) rfl rfl (c_isWord (B := B) (n := n) (s := s) (e := e) (si := (0 + i)) (by omega) hn hm hB hBr hs he (hse (by omega)) (by omega) (fun tw20_3 => ?_) (fun tw20_3 => ?_))
        · rw [Nat.zero_add] at tw20_3
          show Aj γ mX3_keyHere d 0 0 Post 23 [(1, vI ((i : Nat) : Int)), (0, vA 84)] [vI 1] (mk h τ)
          refine a_if_eq (tgt := 28) dX3_keyHere_23 (by decide) (fun c => absurd c (by decide)) (fun _ => ?_)
          refine a_iload_n (j := 0) dX3_keyHere_26 rfl rfl ?_
          exact a_iret dX3_keyHere_27 rfl (kS i (by omega) (by omega) (by assumption) (fun j hj q => iv j hj ⟨by omega, q⟩))
        · rw [Nat.zero_add] at tw20_3
          show Aj γ mX3_keyHere d 0 0 Post 23 [(1, vI ((i : Nat) : Int)), (0, vA 84)] [vI 0] (mk h τ)
          refine a_if_eq (tgt := 28) dX3_keyHere_23 (by decide) (fun _ => ?_) (fun c => absurd c (by decide))
          refine a_iinc (j := 0) (z' := ((i + 1 : Nat) : Int)) (lv' := [(1, vI ((i + 1 : Nat) : Int)), (0, vA 84)]) dX3_keyHere_28 rfl (w_okN (by omega) (by omega) (by omega)) (by decide) rfl ?_
          refine a_goto (tgt := 2) dX3_keyHere_31 (by decide) ?_
          refine a_lv (lv' := [(1, vI (((i + 1) : Nat) : Int)), (0, vA 84)]) (by intro q hq; simp only [List.mem_cons, List.not_mem_nil, or_false] at hq ⊢; rcases hq with rfl | rfl <;> simp) (ih (i + 1)  (by omega) (by omega) (fun j hj => by
          by_cases c : j = i
          · subst c; intro q; first | omega | exact absurd q.2 (by assumption)
          · exact iv j (by omega)))
set_option maxHeartbeats 8000000 in
theorem c_keyHere {γ : GT} {d : Nat} {B : Nat → Int} {n s e : Nat} {kd : Int} {h : Nat → Nat → Int} {τ : List AC} {Post : Option AV → List AC → Prop} (hd : 6 ≤ d) (hn : h 84 1 = ((n : Nat) : Int)) (hm : n ≤ 96) (hB : ∀ k, k < n → and32 (h 85 k) 255 = B k) (hBr : ∀ k, 0 ≤ B k ∧ B k ≤ 255) (hs : h 84 2 = ((s : Nat) : Int)) (he : h 84 3 = ((e : Nat) : Int)) (hk : h 84 4 = kd) (hse : kd = 1 → s < e ∧ e ≤ n) (kS : ∀ K : Nat, K < 3 → kd = 1 → wdS B s e K → (∀ j, j < K → ¬ wdS B s e j) → Post (some (vI ((K : Nat) : Int))) (mk h τ)) (kN : (∀ j, j < 3 → ¬ (kd = 1 ∧ wdS B s e j)) → Post (some (vI (-1000000005))) (mk h τ)) : Cj γ mX3_keyHere d 0 0 [vA 84] (mk h τ) Post := by
  refine c_of (by decide) (Nat.le_of_ble_eq_true rfl) ?_
  show Aj γ mX3_keyHere d 0 0 Post 0 [(0, vA 84)] [] (mk h τ)
  refine a_iconst dX3_keyHere_0 ⟨by decide, by decide⟩ ?_
  refine a_istore_n (lv' := [(1, vI 0), (0, vA 84)]) dX3_keyHere_1 rfl (by decide) rfl ?_
  exact a_lv (lv' := [(1, vI ((0 : Nat) : Int)), (0, vA 84)]) (by intro q hq; simp only [List.mem_cons, List.not_mem_nil, or_false] at hq ⊢; rcases hq with rfl | rfl <;> simp) (l_key (h := h) (B := B) (n := n) hd hn hm hB hBr hs he hk hse kS kN 4 0 (by omega) (by omega) (fun k hk => by omega))
