/-- the last of n with this key (none: -1) -/
def cntG (kx : Nat → Int) (key : Int) : Nat → Int
  | 0 => -1
  | n + 1 => if kx n = key then (n : Int) else cntG kx key n
theorem cntG_rng (kx : Nat → Int) (key : Int) : ∀ n : Nat, -1 ≤ cntG kx key n ∧ cntG kx key n < n
  | 0 => by unfold cntG; omega
  | n + 1 => by
    have ih := cntG_rng kx key n
    unfold cntG
    split
    · omega
    · omega
theorem cntG_ext {kx ky : Nat → Int} {key : Int} : ∀ {n : Nat}, (∀ t, t < n → kx t = ky t) → cntG kx key n = cntG ky key n
  | 0, _ => rfl
  | n + 1, h => by
    unfold cntG
    rw [h n (by omega), cntG_ext (fun t ht => h t (by omega))]
theorem cntG_s (kx : Nat → Int) (key : Int) (n : Nat) : cntG kx key (n + 1) = if kx n = key then (n : Int) else cntG kx key n := rfl
theorem cntG_pos {kx : Nat → Int} {key : Int} {n : Nat} (h : kx n = key) : cntG kx key (n + 1) = (n : Int) := by rw [cntG_s, if_pos h]
theorem cntG_neg {kx : Nat → Int} {key : Int} {n : Nat} (h : ¬ kx n = key) : cntG kx key (n + 1) = cntG kx key n := by rw [cntG_s, if_neg h]
theorem l_counts {γ : GT} {d : Nat} {key : Int} {h : Nat → Nat → Int} {τ : List AC} {Post : Option AV → List AC → Prop} (hV : ∀ t : Nat, t < 14 → 0 ≤ h 124 (173 + 2 * t) ∧ h 124 (173 + 2 * t) ≤ 2999) :
    ∀ (n : Nat), n ≤ 14 → ∀ t : Int, t = (n : Int) - 1 → Post (some (vI (cntG (fun t => h 124 (173 + 2 * t) / 1000) key n))) (mk h τ) → Aj γ mX9_counts d 0 0 Post 10 [(2, vI t), (0, vA 123), (1, vI key)] [] (mk h τ) := by
  intro n
  induction n with
  | zero =>
    intro _ t ht kQ
    obtain rfl : t = -1 := by omega
    refine a_iload_n (j := 0) dX9_counts_10 rfl rfl ?_
    refine a_if_lt (tgt := 42) dX9_counts_11 (by decide) (fun _ => ?_) (fun c => absurd c (by decide))
    refine a_iconst dX9_counts_42 ⟨by decide, by decide⟩ ?_
    exact a_iret dX9_counts_43 rfl kQ
  | succ n ih =>
    intro hn t ht kQ
    obtain rfl : t = ((n : Nat) : Int) := by omega
    have hv := hV n (by omega)
    refine a_iload_n (j := 0) dX9_counts_10 rfl rfl ?_
    refine a_if_lt (tgt := 42) dX9_counts_11 (by decide) (fun c11_1 => absurd c11_1 (by omega)) (fun c11_1 => ?_)
    refine a_aload_n (j := 1) dX9_counts_14 rfl rfl (Nat.le_of_ble_eq_true rfl) ?_
    refine b_getp (a := 123) (p := 124) dX9_counts_15 fwX9_9 (by decide) rfl (by decide) rfl rfl ?_
    refine a_sipush dX9_counts_18 ⟨by decide, by decide, by decide⟩ ?_
    refine a_iconst dX9_counts_21 ⟨by decide, by decide⟩ ?_
    refine a_iload_n (j := 0) dX9_counts_22 rfl rfl ?_
    refine a_imul (z := (2 * ((n : Nat) : Int))) dX9_counts_23 (w_ok (by omega) (by omega)) ?_
    refine a_iadd (z := (173 + (2 * ((n : Nat) : Int)))) dX9_counts_24 (w_ok (by omega) (by omega)) ?_
    refine b_iaload (a := 124) (z := h 124 (173 + 2 * n)) (173 + 2 * n) dX9_counts_25 (by decide) rfl (by omega) (by omega) (sp_nil rfl _) rfl (fun r25_2 => ?_)
    refine a_sipush dX9_counts_26 ⟨by decide, by decide, by decide⟩ ?_
    refine a_idiv (z := ((h 124 (173 + 2 * n)) / 1000)) dX9_counts_29 (by omega) (w_divN (by omega) (by omega) (by omega)) ?_
    refine a_iload_n (j := 2) dX9_counts_30 rfl rfl ?_
    refine a_icmp_ne (tgt := 36) dX9_counts_31 (by decide) (fun c31_3 => ?_) (fun c31_3 => ?_)
    · refine a_iinc (j := 0) (z' := (((n : Nat) : Int) - 1)) (lv' := [(2, vI (((n : Nat) : Int) - 1)), (0, vA 123), (1, vI key)]) dX9_counts_36 rfl (w_ok (by omega) (by omega)) (by decide) rfl ?_
      refine a_goto (tgt := 10) dX9_counts_39 (by decide) ?_
      refine a_lv (lv' := [(2, vI (((n : Nat) : Int) - 1)), (0, vA 123), (1, vI key)]) (by intro q hq; simp only [List.mem_cons, List.not_mem_nil, or_false] at hq ⊢; rcases hq with rfl | rfl | rfl <;> simp) (ih (by omega) (((n : Nat) : Int) - 1) rfl (by rw [cntG_neg (by omega)] at kQ; exact kQ))
    · refine a_iload_n (j := 0) dX9_counts_34 rfl rfl ?_
      exact a_iret dX9_counts_35 rfl (by rw [cntG_pos (by omega)] at kQ; exact kQ)
theorem c_X9_counts {γ : GT} {d : Nat} {key v : Int} {h : Nat → Nat → Int} {τ : List AC} {Post : Option AV → List AC → Prop} (hd : 0 ≤ d) (e : h 124 6 = v) (hv : 0 ≤ v ∧ v ≤ 14) (hV : ∀ t : Nat, t < 14 → 0 ≤ h 124 (173 + 2 * t) ∧ h 124 (173 + 2 * t) ≤ 2999) (kQ : Post (some (vI (cntG (fun t => h 124 (173 + 2 * t) / 1000) key (Int.toNat v)))) (mk h τ)) : Cj γ mX9_counts d 0 0 [vA 123, vI key] (mk h τ) Post := by
  refine c_of (by decide) (Nat.le_of_ble_eq_true rfl) ?_
  show Aj γ mX9_counts d 0 0 Post 0 [(0, vA 123), (1, vI key)] [] (mk h τ)
  refine a_aload_n (j := 0) dX9_counts_0 rfl rfl (Nat.le_of_ble_eq_true rfl) ?_
  refine b_getp (a := 123) (p := 124) dX9_counts_1 fwX9_9 (by decide) rfl (by decide) rfl rfl ?_
  refine a_bipush dX9_counts_4 ⟨by decide, by decide, by decide⟩ ?_
  refine b_iaload (a := 124) (z := v) 6 dX9_counts_6 (by decide) rfl rfl (by decide) rfl e (fun _ => ?_)
  refine a_iconst dX9_counts_7 ⟨by decide, by decide⟩ ?_
  refine a_isub (z := v - 1) dX9_counts_8 (w_ok (by omega) (by omega)) ?_
  refine a_istore_n (lv' := [(2, vI (v - 1)), (0, vA 123), (1, vI key)]) dX9_counts_9 rfl (by decide) rfl ?_
  exact l_counts hV (Int.toNat v) (by omega) (v - 1) (by omega) kQ
theorem l_cText {γ : GT} {d : Nat} {w : Nat} {key : Int} {kx : Nat → Int} {h : Nat → Nat → Int} {τ : List AC} {Post : Option AV → List AC → Prop} (hw : isWd w) :
    ∀ (n : Nat), n ≤ 14 → (∀ t : Nat, t < n → ∃ (q : Nat) (ft : Nat → Int), h (w + 3) t = ((154 + q : Nat) : Int) ∧ τ[q]? = some (4, 3, ft) ∧ ft 0 = kx t) → ∀ t : Int, t = (n : Int) - 1 → Post (some (vI (if cntG kx key n < 0 then -1000000005 else cntG kx key n))) (mk h τ) → Aj γ mX7_countingText d 0 0 Post 7 [(2, vI t), (0, vA w), (1, vI key)] [] (mk h τ) := by
  intro n
  induction n with
  | zero =>
    intro _ _ t ht kQ
    obtain rfl : t = -1 := by omega
    refine a_iload_n (j := 0) dX7_countingText_7 rfl rfl ?_
    refine a_if_lt (tgt := 41) dX7_countingText_8 (by decide) (fun _ => ?_) (fun c => absurd c (by decide))
    refine a_ldc (z := (-1000000005)) dX7_countingText_41 kwX7_85 ⟨by decide, by decide, by decide⟩ ?_
    exact a_iret dX7_countingText_43 rfl kQ
  | succ n ih =>
    intro hn hT t ht kQ
    obtain rfl : t = ((n : Nat) : Int) := by omega
    obtain ⟨q, ft, hz, hq, hk⟩ := hT n (by omega)
    refine a_iload_n (j := 0) dX7_countingText_7 rfl rfl ?_
    refine a_if_lt (tgt := 41) dX7_countingText_8 (by decide) (fun c8_1 => absurd c8_1 (by omega)) (fun c8_1 => ?_)
    refine a_aload_n (j := 1) dX7_countingText_11 rfl rfl (Nat.le_of_ble_eq_true rfl) ?_
    refine b_getp (a := w) (p := (w + 3)) dX7_countingText_12 fwX7_23 (by rcases hw with rfl | rfl <;> decide) (by rcases hw with rfl | rfl <;> rfl) (by decide) (by rcases hw with rfl | rfl <;> rfl) rfl ?_
    refine a_iload_n (j := 0) dX7_countingText_15 rfl rfl ?_
    refine b_aaload (a := (w + 3)) (z := (((154 + q) : Nat) : Int)) n dX7_countingText_16 (by rcases hw with rfl | rfl <;> decide) (by rcases hw with rfl | rfl <;> rfl) qa_17 rfl (by omega) (by rcases hw with rfl | rfl <;> exact sp_nil rfl _) hz ?_
    refine a_ifnull (tgt := 35) dX7_countingText_17 (by decide) (fun c => absurd c (by omega)) (fun _ => ?_)
    refine a_aload_n (j := 1) dX7_countingText_20 rfl rfl (Nat.le_of_ble_eq_true rfl) ?_
    refine b_getp (a := w) (p := (w + 3)) dX7_countingText_21 fwX7_23 (by rcases hw with rfl | rfl <;> decide) (by rcases hw with rfl | rfl <;> rfl) (by decide) (by rcases hw with rfl | rfl <;> rfl) rfl ?_
    refine a_iload_n (j := 0) dX7_countingText_24 rfl rfl ?_
    refine b_aaload (a := (w + 3)) (z := (((154 + q) : Nat) : Int)) n dX7_countingText_25 (by rcases hw with rfl | rfl <;> decide) (by rcases hw with rfl | rfl <;> rfl) qa_17 rfl (by omega) (by rcases hw with rfl | rfl <;> exact sp_nil rfl _) hz ?_
    refine a_get (a := (154 + q)) (κ := 4) (n := 3) (f := ft) (v := vI (kx n)) dX7_countingText_26 fwX7_82 ((mk_dyn q).trans hq) (by decide) (show (et 4 0, ft 0) = vI (kx n) by rw [hk]; rfl) ?_
    refine a_iload_n (j := 2) dX7_countingText_29 rfl rfl ?_
    refine a_icmp_ne (tgt := 35) dX7_countingText_30 (by decide) (fun c30_2 => ?_) (fun c30_2 => ?_)
    · refine a_iinc (j := 0) (z' := (((n : Nat) : Int) - 1)) (lv' := [(2, vI (((n : Nat) : Int) - 1)), (0, vA w), (1, vI key)]) dX7_countingText_35 rfl (w_ok (by omega) (by omega)) (by decide) rfl ?_
      refine a_goto (tgt := 7) dX7_countingText_38 (by decide) ?_
      refine a_lv (lv' := [(2, vI (((n : Nat) : Int) - 1)), (0, vA w), (1, vI key)]) (by intro q hq; simp only [List.mem_cons, List.not_mem_nil, or_false] at hq ⊢; rcases hq with rfl | rfl | rfl <;> simp) (ih (by omega) (fun t ht => hT t (by omega)) (((n : Nat) : Int) - 1) rfl (by rw [cntG_neg (by omega)] at kQ; exact kQ))
    · refine a_iload_n (j := 0) dX7_countingText_33 rfl rfl ?_
      exact a_iret dX7_countingText_34 rfl (by rw [cntG_pos (by omega), if_neg (by omega)] at kQ; exact kQ)
theorem c_X7_countingText {γ : GT} {d : Nat} {w : Nat} {key v : Int} {kx : Nat → Int} {h : Nat → Nat → Int} {τ : List AC} {Post : Option AV → List AC → Prop} (hd : 0 ≤ d) (hw : isWd w) (e : h w 5 = v) (hv : 0 ≤ v ∧ v ≤ 14) (hT : ∀ t : Nat, t < Int.toNat v → ∃ (q : Nat) (ft : Nat → Int), h (w + 3) t = ((154 + q : Nat) : Int) ∧ τ[q]? = some (4, 3, ft) ∧ ft 0 = kx t) (kQ : Post (some (vI (if cntG kx key (Int.toNat v) < 0 then -1000000005 else cntG kx key (Int.toNat v)))) (mk h τ)) : Cj γ mX7_countingText d 0 0 [vA w, vI key] (mk h τ) Post := by
  refine c_of (by decide) (Nat.le_of_ble_eq_true rfl) ?_
  show Aj γ mX7_countingText d 0 0 Post 0 [(0, vA w), (1, vI key)] [] (mk h τ)
  refine a_aload_n (j := 0) dX7_countingText_0 rfl rfl (Nat.le_of_ble_eq_true rfl) ?_
  refine b_get (a := w) (z := v) (t := 0) dX7_countingText_1 fwX7_67 (by rcases hw with rfl | rfl <;> decide) (by rcases hw with rfl | rfl <;> rfl) (by decide) (by rcases hw with rfl | rfl <;> rfl) rfl e ?_
  refine a_iconst dX7_countingText_4 ⟨by decide, by decide⟩ ?_
  refine a_isub (z := v - 1) dX7_countingText_5 (w_ok (by omega) (by omega)) ?_
  refine a_istore_n (lv' := [(2, vI (v - 1)), (0, vA w), (1, vI key)]) dX7_countingText_6 rfl (by decide) rfl ?_
  exact l_cText hw (Int.toNat v) (by omega) hT (v - 1) (by omega) kQ
