/-! CHANGES: how far one is missed, what is made of a pair of steps, of all -/
def msT (T : Nat → Nat → Int) (a s b r : Nat) : Int := T 9 (4 * a + s) + T 4 a + T 1 (Int.toNat (T 3 a)) - T 9 (4 * b + r) - T 7 b
def gT (T : Nat → Nat → Int) (a b : Nat) (more : Int) (s r : Nat) : Int := if msT T a s b r ≤ more then T 8 (4 * a + s) * T 8 (4 * b + r) else 0
def mkT (T : Nat → Nat → Int) (a b : Nat) (more : Int) : Int := sm (fun s => sm (gT T a b more s) 4) 4
theorem mul_rng {x y : Int} {B C : Int} (hx : 0 ≤ x ∧ x ≤ B) (hy : 0 ≤ y ∧ y ≤ C) : 0 ≤ x * y ∧ x * y ≤ B * C :=
  ⟨Int.mul_nonneg hx.1 hy.1, Int.mul_le_mul hx.2 hy.2 hy.1 (Int.le_trans hx.1 hx.2)⟩
theorem gT_rng {T : Nat → Nat → Int} (h : tOK T) {a b s r : Nat} {more : Int} (hs : s < 4) (hr : r < 4) : 0 ≤ gT T a b more s r ∧ gT T a b more s r ≤ 10000 := by
  have h1 := ((h.2.2.2.2.2 a).2.2.2.2.2.2.1 s hs).1
  have h2 := ((h.2.2.2.2.2 b).2.2.2.2.2.2.1 r hr).1
  have h3 := mul_rng h1 h2
  unfold gT
  split <;> omega
theorem sm_rng {f : Nat → Int} {B : Int} : ∀ {n : Nat}, (∀ k, k < n → 0 ≤ f k ∧ f k ≤ B) → 0 ≤ sm f n ∧ sm f n ≤ (n : Int) * B
  | 0, _ => by show 0 ≤ (0 : Int) ∧ (0 : Int) ≤ ((0 : Nat) : Int) * B; rw [show ((0 : Nat) : Int) = 0 from rfl, Int.zero_mul]; omega
  | n + 1, h => by
    have h1 := sm_rng (f := f) (B := B) (n := n) (fun k hk => h k (by omega))
    have h2 := h n (by omega)
    rw [sm_s, show (((n + 1 : Nat) : Int)) = (n : Int) + 1 by omega, Int.add_mul, Int.one_mul]
    omega
theorem sm4_rng {f : Nat → Int} {B : Int} (hf : ∀ k, k < 4 → 0 ≤ f k ∧ f k ≤ B) {i : Nat} (hi : i ≤ 4) : 0 ≤ sm f i ∧ sm f i ≤ 4 * B := by
  have h0 := hf 0 (by omega)
  have h := sm_rng (f := f) (B := B) (n := i) (fun k hk => hf k (by omega))
  have h2 : (i : Int) * B ≤ 4 * B := Int.mul_le_mul_of_nonneg_right (by omega) (by omega)
  omega
theorem gTs_rng {T : Nat → Nat → Int} (h : tOK T) {a b s : Nat} {more : Int} (hs : s < 4) {i : Nat} (hi : i ≤ 4) : 0 ≤ sm (gT T a b more s) i ∧ sm (gT T a b more s) i ≤ 40000 := by
  have := sm4_rng (f := gT T a b more s) (B := 10000) (fun k hk => gT_rng h hs hk) hi
  omega
theorem gTo_rng {T : Nat → Nat → Int} (h : tOK T) {a b : Nat} {more : Int} {i : Nat} (hi : i ≤ 4) : 0 ≤ sm (fun s => sm (gT T a b more s) 4) i ∧ sm (fun s => sm (gT T a b more s) 4) i ≤ 160000 := by
  have := sm4_rng (f := fun s => sm (gT T a b more s) 4) (B := 40000) (fun k hk => gTs_rng h hk (by omega)) hi
  omega
theorem gT_pos {T : Nat → Nat → Int} {a b s r : Nat} {more : Int} (h : msT T a s b r ≤ more) : gT T a b more s r = T 8 (4 * a + s) * T 8 (4 * b + r) := if_pos h
theorem gT_neg {T : Nat → Nat → Int} {a b s r : Nat} {more : Int} (h : ¬ msT T a s b r ≤ more) : gT T a b more s r = 0 := if_neg h
set_option maxHeartbeats 8000000 in
theorem l_mdR {γ : GT} {d : Nat} {T : Nat → Nat → Int} {a b : Nat} {s : Nat} {more acc : Int} {h : Nat → Nat → Int} {τ : List AC} {Post : Option AV → List AC → Prop} (hd : 2 ≤ d) (hT : tOK T) (hTT : TT h T) (ha : (a : Int) < T 0 2) (hb : (b : Int) < T 0 2) (hs : s < 4) (hacc : 0 ≤ acc ∧ acc ≤ 160000) (kE : ∀ x : Int, Aj γ mX5_madeOf d 0 0 Post 69 [(6, vI x), (4, vI (acc + sm (gT T a b more s) 4)), (5, vI ((s : Nat) : Int)), (0, vA 63), (1, vI ((a : Nat) : Int)), (2, vI ((b : Nat) : Int)), (3, vI more)] [] (mk h τ)) :
    ∀ (f i : Nat), i ≤ 4 → 4 < i + f → Aj γ mX5_madeOf d 0 0 Post 15 [(6, vI ((i : Nat) : Int)), (4, vI (acc + sm (gT T a b more s) i)), (5, vI ((s : Nat) : Int)), (0, vA 63), (1, vI ((a : Nat) : Int)), (2, vI ((b : Nat) : Int)), (3, vI more)] [] (mk h τ) := by
  intro f
  induction f with
  | zero => intro i h1 h2; omega
  | succ f ih =>
    intro i h1 h2
    have h2_ := hT.2.2.1
    have h3_ := hT.2.2.2.1
    have qa := hT.2.2.2.2.2 a
    have qa3 := qa.2.1
    have qa4 := qa.2.2.1
    have qa5 := qa.2.2.2.1
    have qa6 := qa.2.2.2.2.1
    have qa7 := qa.2.2.2.2.2.1
    have qa8 := (qa.2.2.2.2.2.2.2 (by omega))
    have qaw := hT.2.2.2.2.1 (Int.toNat (T 3 a))
    have qb := hT.2.2.2.2.2 b
    have qb3 := qb.2.1
    have qb4 := qb.2.2.1
    have qb5 := qb.2.2.2.1
    have qb6 := qb.2.2.2.2.1
    have qb7 := qb.2.2.2.2.2.1
    have qb8 := (qb.2.2.2.2.2.2.2 (by omega))
    have qbw := hT.2.2.2.2.1 (Int.toNat (T 3 b))
    have qa9s := qa.2.2.2.2.2.2.1 s (by omega)
    have hsm := gTs_rng hT (a := a) (b := b) (s := s) (more := more) hs (i := i) (by omega)
    refine a_iload (j := 0) dX5_madeOf_15 rfl ?_
    refine a_iconst dX5_madeOf_17 ⟨by decide, by decide⟩ ?_
    refine a_icmp_ge (tgt := 69) dX5_madeOf_18 (by decide) (fun c18_1 => ?_) (fun c18_1 => ?_)
    · obtain rfl : i = 4 := (by omega)
      exact kE _
    · have qb9i := qb.2.2.2.2.2.2.1 i (by omega)
      refine a_aload_n (j := 3) dX5_madeOf_21 rfl rfl (Nat.le_of_ble_eq_true rfl) ?_
      refine a_iload_n (j := 4) dX5_madeOf_22 rfl rfl ?_
      refine a_iload (j := 2) dX5_madeOf_23 rfl ?_
      refine a_iload_n (j := 5) dX5_madeOf_25 rfl rfl ?_
      refine a_iload (j := 0) dX5_madeOf_26 rfl ?_
      refine b_callV (d' := d - 1) (mc' := 0) (ms' := 0) (mc1 := 0) (ms1 := 0) (st := []) (b := 63) [vI ((a : Nat) : Int), vI ((s : Nat) : Int), vI ((b : Nat) : Int), vI ((i : Nat) : Int)] dX5_madeOf_28 mwX5_missedBy lkX5_167 (by decide) rfl rc_X5 rfl (Nat.le_of_ble_eq_true rfl) (by omega) rfl rfl (c_X5_missedBy (v1 := (T 9 (4 * a + s))) (v2 := (T 4 a)) (v3 := (T 3 a)) (v4 := (T 1 (Int.toNat (T 3 a)))) (v5 := (T 9 (4 * b + i))) (v6 := (T 7 b)) (by omega)  ((congrArg (h 72) (show (Int.toNat ((((a : Nat) : Int) * 4) + ((s : Nat) : Int))) = (4 * a + s) by omega)).trans ((hTT.2.2.1 a (by omega)).2.2.2.2.2.2 s (by omega)).2) ((congrArg (h 67) (show (Int.toNat ((a : Nat) : Int)) = a by omega)).trans (hTT.2.2.1 a (by omega)).2.2.1) ((congrArg (h 66) (show (Int.toNat ((a : Nat) : Int)) = a by omega)).trans (hTT.2.2.1 a (by omega)).2.1) (hTT.2.1 _ (by omega)) ((congrArg (h 72) (show (Int.toNat ((((b : Nat) : Int) * 4) + ((i : Nat) : Int))) = (4 * b + i) by omega)).trans ((hTT.2.2.1 b (by omega)).2.2.2.2.2.2 i (by omega)).2) ((congrArg (h 70) (show (Int.toNat ((b : Nat) : Int)) = b by omega)).trans (hTT.2.2.1 b (by omega)).2.2.2.2.2.1) (show 0 ≤ ((a : Nat) : Int) ∧ ((a : Nat) : Int) ≤ 11 by omega) (show 0 ≤ ((b : Nat) : Int) ∧ ((b : Nat) : Int) ≤ 11 by omega) (show 0 ≤ ((s : Nat) : Int) ∧ ((s : Nat) : Int) ≤ 3 by omega) (show 0 ≤ ((i : Nat) : Int) ∧ ((i : Nat) : Int) ≤ 3 by omega) (show 0 ≤ (T 9 (4 * a + s)) ∧ (T 9 (4 * a + s)) ≤ 3000 by omega) (show 1 ≤ (T 4 a) ∧ (T 4 a) ≤ 600 by omega) (show 0 ≤ (T 3 a) ∧ (T 3 a) ≤ 5 by omega) (show 0 ≤ (T 1 (Int.toNat (T 3 a))) ∧ (T 1 (Int.toNat (T 3 a))) ≤ 99 by omega) (show 0 ≤ (T 9 (4 * b + i)) ∧ (T 9 (4 * b + i)) ≤ 3000 by omega) (show 0 ≤ (T 7 b) ∧ (T 7 b) ≤ 30 by omega) ?_)
      show Aj γ mX5_madeOf d 0 0 Post 31 [(6, vI ((i : Nat) : Int)), (4, vI (acc + sm (gT T a b more s) i)), (5, vI ((s : Nat) : Int)), (0, vA 63), (1, vI ((a : Nat) : Int)), (2, vI ((b : Nat) : Int)), (3, vI more)] [vI ((T 9 (4 * a + s)) + (T 4 a) + (T 1 (Int.toNat (T 3 a))) - (T 9 (4 * b + i)) - (T 7 b))] (mk h τ)
      show Aj γ mX5_madeOf d 0 0 Post 31 [(6, vI ((i : Nat) : Int)), (4, vI (acc + sm (gT T a b more s) i)), (5, vI ((s : Nat) : Int)), (0, vA 63), (1, vI ((a : Nat) : Int)), (2, vI ((b : Nat) : Int)), (3, vI more)] [vI (msT T a s b i)] (mk h τ)
      refine a_iload_n (j := 6) dX5_madeOf_31 rfl rfl ?_
      refine a_icmp_gt (tgt := 63) dX5_madeOf_32 (by decide) (fun c32_2 => ?_) (fun c32_2 => ?_)
      · refine a_iinc (j := 0) (z' := ((i + 1 : Nat) : Int)) (lv' := [(6, vI ((i + 1 : Nat) : Int)), (4, vI (acc + sm (gT T a b more s) i)), (5, vI ((s : Nat) : Int)), (0, vA 63), (1, vI ((a : Nat) : Int)), (2, vI ((b : Nat) : Int)), (3, vI more)]) dX5_madeOf_63 rfl (w_okN (by omega) (by omega) (by omega)) (by decide) rfl ?_
        refine a_goto (tgt := 15) dX5_madeOf_66 (by decide) ?_
        have e : acc + sm (gT T a b more s) (i + 1) = (acc + sm (gT T a b more s) i) := by rw [sm_s, gT_neg (by omega)]; omega
        have q := ih (i + 1) (by omega) (by omega)
        rw [e] at q
        exact a_lv (lv' := [(6, vI (((i + 1) : Nat) : Int)), (4, vI (acc + sm (gT T a b more s) i)), (5, vI ((s : Nat) : Int)), (0, vA 63), (1, vI ((a : Nat) : Int)), (2, vI ((b : Nat) : Int)), (3, vI more)]) (by intro q hq; simp only [List.mem_cons, List.not_mem_nil, or_false] at hq ⊢; rcases hq with rfl | rfl | rfl | rfl | rfl | rfl | rfl <;> simp) q
      · have hpr := mul_rng qa9s.1 qb9i.1
        refine a_iload (j := 1) dX5_madeOf_35 rfl ?_
        refine a_aload_n (j := 3) dX5_madeOf_37 rfl rfl (Nat.le_of_ble_eq_true rfl) ?_
        refine b_getp (a := 63) (p := 71) dX5_madeOf_38 fwX5_37 (by decide) rfl (by decide) rfl rfl ?_
        refine a_iload_n (j := 4) dX5_madeOf_41 rfl rfl ?_
        refine a_iconst dX5_madeOf_42 ⟨by decide, by decide⟩ ?_
        refine a_imul (z := (((a : Nat) : Int) * 4)) dX5_madeOf_43 (w_ok (by omega) (by omega)) ?_
        refine a_iload (j := 2) dX5_madeOf_44 rfl ?_
        refine a_iadd (z := ((((a : Nat) : Int) * 4) + ((s : Nat) : Int))) dX5_madeOf_46 (w_ok (by omega) (by omega)) ?_
        refine b_iaload (a := 71) (z := T 8 (4 * a + s)) (4 * a + s) dX5_madeOf_47 (by decide) rfl (by omega) (by omega) (sp_nil rfl _) ((hTT.2.2.1 a (by omega)).2.2.2.2.2.2 s (by omega)).1 (fun r47_3 => ?_)
        refine a_aload_n (j := 3) dX5_madeOf_48 rfl rfl (Nat.le_of_ble_eq_true rfl) ?_
        refine b_getp (a := 63) (p := 71) dX5_madeOf_49 fwX5_37 (by decide) rfl (by decide) rfl rfl ?_
        refine a_iload_n (j := 5) dX5_madeOf_52 rfl rfl ?_
        refine a_iconst dX5_madeOf_53 ⟨by decide, by decide⟩ ?_
        refine a_imul (z := (((b : Nat) : Int) * 4)) dX5_madeOf_54 (w_ok (by omega) (by omega)) ?_
        refine a_iload (j := 0) dX5_madeOf_55 rfl ?_
        refine a_iadd (z := ((((b : Nat) : Int) * 4) + ((i : Nat) : Int))) dX5_madeOf_57 (w_ok (by omega) (by omega)) ?_
        refine b_iaload (a := 71) (z := T 8 (4 * b + i)) (4 * b + i) dX5_madeOf_58 (by decide) rfl (by omega) (by omega) (sp_nil rfl _) ((hTT.2.2.1 b (by omega)).2.2.2.2.2.2 i (by omega)).1 (fun r58_4 => ?_)
        refine a_imul (z := ((T 8 (4 * a + s)) * (T 8 (4 * b + i)))) dX5_madeOf_59 (w_ok (by omega) (by omega)) ?_
        refine a_iadd (z := ((acc + sm (gT T a b more s) i) + ((T 8 (4 * a + s)) * (T 8 (4 * b + i))))) dX5_madeOf_60 (w_ok (by omega) (by omega)) ?_
        refine a_istore (lv' := [(4, vI ((acc + sm (gT T a b more s) i) + ((T 8 (4 * a + s)) * (T 8 (4 * b + i))))), (6, vI ((i : Nat) : Int)), (5, vI ((s : Nat) : Int)), (0, vA 63), (1, vI ((a : Nat) : Int)), (2, vI ((b : Nat) : Int)), (3, vI more)]) dX5_madeOf_61 (by decide) rfl ?_
        refine a_iinc (j := 1) (z' := ((i + 1 : Nat) : Int)) (lv' := [(6, vI ((i + 1 : Nat) : Int)), (4, vI ((acc + sm (gT T a b more s) i) + ((T 8 (4 * a + s)) * (T 8 (4 * b + i))))), (5, vI ((s : Nat) : Int)), (0, vA 63), (1, vI ((a : Nat) : Int)), (2, vI ((b : Nat) : Int)), (3, vI more)]) dX5_madeOf_63 rfl (w_okN (by omega) (by omega) (by omega)) (by decide) rfl ?_
        refine a_goto (tgt := 15) dX5_madeOf_66 (by decide) ?_
        have e : acc + sm (gT T a b more s) (i + 1) = ((acc + sm (gT T a b more s) i) + ((T 8 (4 * a + s)) * (T 8 (4 * b + i)))) := by rw [sm_s, gT_pos (by omega)]; omega
        have q := ih (i + 1) (by omega) (by omega)
        rw [e] at q
        exact a_lv (lv' := [(6, vI (((i + 1) : Nat) : Int)), (4, vI ((acc + sm (gT T a b more s) i) + ((T 8 (4 * a + s)) * (T 8 (4 * b + i))))), (5, vI ((s : Nat) : Int)), (0, vA 63), (1, vI ((a : Nat) : Int)), (2, vI ((b : Nat) : Int)), (3, vI more)]) (by intro q hq; simp only [List.mem_cons, List.not_mem_nil, or_false] at hq ⊢; rcases hq with rfl | rfl | rfl | rfl | rfl | rfl | rfl <;> simp) q
set_option maxHeartbeats 8000000 in
theorem l_mdS {γ : GT} {d : Nat} {T : Nat → Nat → Int} {a b : Nat} {more : Int} {h : Nat → Nat → Int} {τ : List AC} {Post : Option AV → List AC → Prop} (hd : 2 ≤ d) (hT : tOK T) (hTT : TT h T) (ha : (a : Int) < T 0 2) (hb : (b : Int) < T 0 2) (kQ : Post (some (vI (mkT T a b more))) (mk h τ)) :
    ∀ (f i : Nat), i ≤ 4 → 4 < i + f → Aj γ mX5_madeOf d 0 0 Post 6 [(5, vI ((i : Nat) : Int)), (4, vI (sm (fun s => sm (gT T a b more s) 4) i)), (0, vA 63), (1, vI ((a : Nat) : Int)), (2, vI ((b : Nat) : Int)), (3, vI more)] [] (mk h τ) := by
  intro f
  induction f with
  | zero => intro i h1 h2; omega
  | succ f ih =>
    intro i h1 h2
    have hso := gTo_rng hT (a := a) (b := b) (more := more) (i := i) (by omega)
    refine a_iload (j := 0) dX5_madeOf_6 rfl ?_
    refine a_iconst dX5_madeOf_8 ⟨by decide, by decide⟩ ?_
    refine a_icmp_ge (tgt := 75) dX5_madeOf_9 (by decide) (fun c9_1 => ?_) (fun c9_1 => ?_)
    · refine a_iload (j := 1) dX5_madeOf_75 rfl ?_
      exact a_iret dX5_madeOf_77 rfl (by obtain rfl : i = 4 := (by omega); exact kQ)
    · refine a_iconst dX5_madeOf_12 ⟨by decide, by decide⟩ ?_
      refine a_istore (lv' := [(6, vI 0), (5, vI ((i : Nat) : Int)), (4, vI (sm (fun s => sm (gT T a b more s) 4) i)), (0, vA 63), (1, vI ((a : Nat) : Int)), (2, vI ((b : Nat) : Int)), (3, vI more)]) dX5_madeOf_13 (by decide) rfl ?_
      have q0 := l_mdR (γ := γ) (d := d) (τ := τ) (Post := Post) (more := more) (acc := sm (fun s => sm (gT T a b more s) 4) i) hd hT hTT ha hb (s := i) (by omega) hso ?_ 5 0 (by omega) (by omega)
      · rw [show sm (fun s => sm (gT T a b more s) 4) i + sm (gT T a b more i) 0 = sm (fun s => sm (gT T a b more s) 4) i from Int.add_zero _] at q0
        exact a_lv (lv' := [(6, vI ((0 : Nat) : Int)), (4, vI (sm (fun s => sm (gT T a b more s) 4) i)), (5, vI ((i : Nat) : Int)), (0, vA 63), (1, vI ((a : Nat) : Int)), (2, vI ((b : Nat) : Int)), (3, vI more)]) (by intro q hq; simp only [List.mem_cons, List.not_mem_nil, or_false] at hq ⊢; rcases hq with rfl | rfl | rfl | rfl | rfl | rfl | rfl <;> simp) q0
      · intro x7
        rw [show sm (fun s => sm (gT T a b more s) 4) i + sm (gT T a b more i) 4 = sm (fun s => sm (gT T a b more s) 4) (i + 1) from rfl]
        refine a_iinc (j := 2) (z' := ((i + 1 : Nat) : Int)) (lv' := [(5, vI ((i + 1 : Nat) : Int)), (6, vI x7), (4, vI (sm (fun s => sm (gT T a b more s) 4) (i + 1))), (0, vA 63), (1, vI ((a : Nat) : Int)), (2, vI ((b : Nat) : Int)), (3, vI more)]) dX5_madeOf_69 rfl (w_okN (by omega) (by omega) (by omega)) (by decide) rfl ?_
        refine a_goto (tgt := 6) dX5_madeOf_72 (by decide) ?_
        refine a_lv (lv' := [(5, vI (((i + 1) : Nat) : Int)), (4, vI (sm (fun s => sm (gT T a b more s) 4) (i + 1))), (0, vA 63), (1, vI ((a : Nat) : Int)), (2, vI ((b : Nat) : Int)), (3, vI more)]) (by intro q hq; simp only [List.mem_cons, List.not_mem_nil, or_false] at hq ⊢; rcases hq with rfl | rfl | rfl | rfl | rfl | rfl <;> simp) (ih (i + 1) (by omega) (by omega))
theorem c_X5_madeOf {γ : GT} {d : Nat} {T : Nat → Nat → Int} {a b : Nat} {more : Int} {h : Nat → Nat → Int} {τ : List AC} {Post : Option AV → List AC → Prop} (hd : 2 ≤ d) (hT : tOK T) (hTT : TT h T) (ha : (a : Int) < T 0 2) (hb : (b : Int) < T 0 2) (kQ : Post (some (vI (mkT T a b more))) (mk h τ)) : Cj γ mX5_madeOf d 0 0 [vA 63, vI ((a : Nat) : Int), vI ((b : Nat) : Int), vI more] (mk h τ) Post := by
  refine c_of (by decide) (Nat.le_of_ble_eq_true rfl) ?_
  show Aj γ mX5_madeOf d 0 0 Post 0 [(0, vA 63), (1, vI ((a : Nat) : Int)), (2, vI ((b : Nat) : Int)), (3, vI more)] [] (mk h τ)
  refine a_iconst dX5_madeOf_0 ⟨by decide, by decide⟩ ?_
  refine a_istore (lv' := [(4, vI 0), (0, vA 63), (1, vI ((a : Nat) : Int)), (2, vI ((b : Nat) : Int)), (3, vI more)]) dX5_madeOf_1 (by decide) rfl ?_
  refine a_iconst dX5_madeOf_3 ⟨by decide, by decide⟩ ?_
  refine a_istore (lv' := [(5, vI 0), (4, vI 0), (0, vA 63), (1, vI ((a : Nat) : Int)), (2, vI ((b : Nat) : Int)), (3, vI more)]) dX5_madeOf_4 (by decide) rfl ?_
  exact a_lv (lv' := [(5, vI ((0 : Nat) : Int)), (4, vI 0), (0, vA 63), (1, vI ((a : Nat) : Int)), (2, vI ((b : Nat) : Int)), (3, vI more)]) (by intro q hq; simp only [List.mem_cons, List.not_mem_nil, or_false] at hq ⊢; rcases hq with rfl | rfl | rfl | rfl | rfl | rfl <;> simp) (l_mdS (more := more) hd hT hTT ha hb kQ 5 0 (by omega) (by omega))
/-! THE REFERENCE'S ROW AND THE TIMETABLE -/
def NTr (N : Nat → Int) (T : Nat → Nat → Int) : Prop := (N 2 = T 0 0 ∧ N 3 = T 0 1 ∧ N 5 = T 0 2 ∧ N 4 = T 0 3) ∧ ∀ t : Nat, (t : Int) < T 0 2 → N (16 + 11 * t) = T 2 t ∧ N (17 + 11 * t) = T 3 t ∧ N (19 + 11 * t) = T 4 t ∧ farF (N (15 + 11 * t)) (N (20 + 11 * t)) = T 5 t ∧ (0 ≤ N (20 + 11 * t) ∧ N (20 + 11 * t) ≤ 999) ∧ ∀ s, s < 4 → N (22 + 11 * t + s) = T 8 (4 * t + s)
theorem NT_tt {N : Nat → Int} (h : NV N) : NTr N (tt N) := by
  refine ⟨⟨rfl, rfl, rfl, rfl⟩, fun t ht => ?_⟩
  have ht : (t : Int) < N 5 := ht
  have hr := h.2.2.1 t ht
  exact ⟨(if_pos ht).symm, (if_pos ht).symm, (if_pos ht).symm, (if_pos ht).symm, hr.2.2.2.2.2.1, fun s hs => (tt8 hs ht).symm⟩
def RT (h T : Nat → Nat → Int) : Prop := NTr (h 124) T ∧ KN h T
theorem RT_fr {h h' T : Nat → Nat → Int} {L : List Nat} (hL : ∀ c, c ∈ [124, 127, 128, 129, 130] → c ∉ L) (hF : Fr L h h') (hR : RT h T) : RT h' T := by
  have q : ∀ c, c ∈ [124, 127, 128, 129, 130] → h' c = h c := fun c a => hF c (hL c a)
  unfold RT KN
  rw [q 124 (by decide), q 127 (by decide), q 128 (by decide), q 129 (by decide), q 130 (by decide)]
  exact hR
set_option maxHeartbeats 8000000 in
theorem l_mbR {γ : GT} {d : Nat} {T : Nat → Nat → Int} {a b : Nat} {s : Nat} {more acc rd : Int} {h : Nat → Nat → Int} {τ : List AC} {Post : Option AV → List AC → Prop} (hd : 2 ≤ d) (hT : tOK T) (hRT : RT h T) (ha : (a : Int) < T 0 2) (hb : (b : Int) < T 0 2) (hs : s < 4) (hm : 0 ≤ more ∧ more ≤ 999) (hrd : rd = T 9 (4 * a + s) + T 4 a + T 1 (Int.toNat (T 3 a))) (hacc : 0 ≤ acc ∧ acc ≤ 160000) (kE : ∀ x : Int, Aj γ mX9_makesBy d 0 0 Post 99 [(7, vI x), (6, vI rd), (4, vI (acc + sm (gT T a b more s) 4)), (5, vI ((s : Nat) : Int)), (0, vA 123), (1, vI ((a : Nat) : Int)), (2, vI ((b : Nat) : Int)), (3, vI more)] [] (mk h τ)) :
    ∀ (f i : Nat), i ≤ 4 → 4 < i + f → Aj γ mX9_makesBy d 0 0 Post 36 [(7, vI ((i : Nat) : Int)), (6, vI rd), (4, vI (acc + sm (gT T a b more s) i)), (5, vI ((s : Nat) : Int)), (0, vA 123), (1, vI ((a : Nat) : Int)), (2, vI ((b : Nat) : Int)), (3, vI more)] [] (mk h τ) := by
  intro f
  induction f with
  | zero => intro i h1 h2; omega
  | succ f ih =>
    intro i h1 h2
    have h2_ := hT.2.2.1
    have h3_ := hT.2.2.2.1
    have qa := hT.2.2.2.2.2 a
    have qa3 := qa.2.1
    have qa4 := qa.2.2.1
    have qa5 := qa.2.2.2.1
    have qa6 := qa.2.2.2.2.1
    have qa7 := qa.2.2.2.2.2.1
    have qa8 := (qa.2.2.2.2.2.2.2 (by omega))
    have qaw := hT.2.2.2.2.1 (Int.toNat (T 3 a))
    have qb := hT.2.2.2.2.2 b
    have qb3 := qb.2.1
    have qb4 := qb.2.2.1
    have qb5 := qb.2.2.2.1
    have qb6 := qb.2.2.2.2.1
    have qb7 := qb.2.2.2.2.2.1
    have qb8 := (qb.2.2.2.2.2.2.2 (by omega))
    have qbw := hT.2.2.2.2.1 (Int.toNat (T 3 b))
    have qa9s := qa.2.2.2.2.2.2.1 s (by omega)
    have hsm := gTs_rng hT (a := a) (b := b) (s := s) (more := more) hs (i := i) (by omega)
    refine a_iload (j := 0) dX9_makesBy_36 rfl ?_
    refine a_iconst dX9_makesBy_38 ⟨by decide, by decide⟩ ?_
    refine a_icmp_ge (tgt := 99) dX9_makesBy_39 (by decide) (fun c39_1 => ?_) (fun c39_1 => ?_)
    · obtain rfl : i = 4 := (by omega)
      exact kE _
    · have qb9i := qb.2.2.2.2.2.2.1 i (by omega)
      refine a_iload (j := 2) dX9_makesBy_42 rfl ?_
      refine a_iload (j := 1) dX9_makesBy_44 rfl ?_
      refine a_aload_n (j := 4) dX9_makesBy_46 rfl rfl (Nat.le_of_ble_eq_true rfl) ?_
      refine a_iload_n (j := 6) dX9_makesBy_47 rfl rfl ?_
      refine a_iload (j := 0) dX9_makesBy_48 rfl ?_
      refine b_callV (d' := d - 1) (mc' := 0) (ms' := 0) (mc1 := 0) (ms1 := 0) (st := [vI rd, vI (acc + sm (gT T a b more s) i)]) (b := 123) [vI ((b : Nat) : Int), vI ((i : Nat) : Int)] dX9_makesBy_50 mwX9_later lkX9_143 (by decide) rfl rc_X9 rfl (Nat.le_of_ble_eq_true rfl) (by omega) rfl rfl (c_X9_later (v1 := (T 6 b)) (v2 := (T 9 (4 * b + i) - T 6 b)) (by omega)  ((congrArg (h 128) (show (Int.toNat ((b : Nat) : Int)) = b by omega)).trans (hRT.2.2 b (by omega)).1) ((congrArg (h 130) (show (Int.toNat ((4 * ((b : Nat) : Int)) + ((i : Nat) : Int))) = (4 * b + i) by omega)).trans ((hRT.2.2 b (by omega)).2.2 i (by omega))) (show 0 ≤ ((b : Nat) : Int) ∧ ((b : Nat) : Int) ≤ 11 by omega) (show 0 ≤ ((i : Nat) : Int) ∧ ((i : Nat) : Int) ≤ 3 by omega) (show 0 ≤ (T 6 b) ∧ (T 6 b) ≤ 1559 by omega) (show 0 ≤ (T 9 (4 * b + i) - T 6 b) ∧ (T 9 (4 * b + i) - T 6 b) ≤ 1000 by omega) ?_)
      show Aj γ mX9_makesBy d 0 0 Post 53 [(7, vI ((i : Nat) : Int)), (6, vI rd), (4, vI (acc + sm (gT T a b more s) i)), (5, vI ((s : Nat) : Int)), (0, vA 123), (1, vI ((a : Nat) : Int)), (2, vI ((b : Nat) : Int)), (3, vI more)] [vI ((T 6 b) + (T 9 (4 * b + i) - T 6 b)), vI rd, vI (acc + sm (gT T a b more s) i)] (mk h τ)
      refine a_iload_n (j := 7) dX9_makesBy_53 rfl rfl ?_
      refine a_iadd (z := (((T 6 b) + (T 9 (4 * b + i) - T 6 b)) + more)) dX9_makesBy_54 (w_ok (by omega) (by omega)) ?_
      refine a_aload_n (j := 4) dX9_makesBy_55 rfl rfl (Nat.le_of_ble_eq_true rfl) ?_
      refine b_getp (a := 123) (p := 129) dX9_makesBy_56 fwX9_25 (by decide) rfl (by decide) rfl rfl ?_
      refine a_iload_n (j := 6) dX9_makesBy_59 rfl rfl ?_
      refine b_iaload (a := 129) (z := T 7 b) b dX9_makesBy_60 (by decide) rfl rfl (by omega) (sp_nil rfl _) (hRT.2.2 b (by omega)).2.1 (fun r60_2 => ?_)
      refine a_iadd (z := ((((T 6 b) + (T 9 (4 * b + i) - T 6 b)) + more) + (T 7 b))) dX9_makesBy_61 (w_ok (by omega) (by omega)) ?_
      refine a_icmp_gt (tgt := 89) dX9_makesBy_62 (by decide) (fun c62_3 => ?_) (fun c62_3 => ?_)
      · refine a_iconst dX9_makesBy_89 ⟨by decide, by decide⟩ ?_
        refine a_iadd (z := (acc + sm (gT T a b more s) i) + 0) dX9_makesBy_90 (w_ok (by omega) (by omega)) ?_
        refine a_istore (lv' := [(4, vI ((acc + sm (gT T a b more s) i) + 0)), (7, vI ((i : Nat) : Int)), (6, vI rd), (5, vI ((s : Nat) : Int)), (0, vA 123), (1, vI ((a : Nat) : Int)), (2, vI ((b : Nat) : Int)), (3, vI more)]) dX9_makesBy_91 (by decide) rfl ?_
        refine a_iinc (j := 1) (z' := ((i + 1 : Nat) : Int)) (lv' := [(7, vI ((i + 1 : Nat) : Int)), (4, vI ((acc + sm (gT T a b more s) i) + 0)), (6, vI rd), (5, vI ((s : Nat) : Int)), (0, vA 123), (1, vI ((a : Nat) : Int)), (2, vI ((b : Nat) : Int)), (3, vI more)]) dX9_makesBy_93 rfl (w_okN (by omega) (by omega) (by omega)) (by decide) rfl ?_
        refine a_goto (tgt := 36) dX9_makesBy_96 (by decide) ?_
        have e : acc + sm (gT T a b more s) (i + 1) = (acc + sm (gT T a b more s) i) + 0 := by rw [sm_s, gT_neg (by unfold msT; omega)]; omega
        have q := ih (i + 1) (by omega) (by omega)
        rw [e] at q
        exact a_lv (lv' := [(7, vI (((i + 1) : Nat) : Int)), (6, vI rd), (4, vI ((acc + sm (gT T a b more s) i) + 0)), (5, vI ((s : Nat) : Int)), (0, vA 123), (1, vI ((a : Nat) : Int)), (2, vI ((b : Nat) : Int)), (3, vI more)]) (by intro q hq; simp only [List.mem_cons, List.not_mem_nil, or_false] at hq ⊢; rcases hq with rfl | rfl | rfl | rfl | rfl | rfl | rfl | rfl <;> simp) q
      · refine a_aload_n (j := 4) dX9_makesBy_65 rfl rfl (Nat.le_of_ble_eq_true rfl) ?_
        refine a_iload_n (j := 5) dX9_makesBy_66 rfl rfl ?_
        refine a_bipush dX9_makesBy_67 ⟨by decide, by decide, by decide⟩ ?_
        refine a_iload (j := 3) dX9_makesBy_69 rfl ?_
        refine a_iadd (z := (7 + ((s : Nat) : Int))) dX9_makesBy_71 (w_ok (by omega) (by omega)) ?_
        refine b_callV (d' := d - 1) (mc' := 0) (ms' := 0) (mc1 := 0) (ms1 := 0) (st := [vI (acc + sm (gT T a b more s) i)]) (b := 123) [vI ((a : Nat) : Int), vI (7 + ((s : Nat) : Int))] dX9_makesBy_72 mwX9_of lkX9_107 (by decide) rfl rc_X9 rfl (Nat.le_of_ble_eq_true rfl) (by omega) rfl rfl (c_X9_of (v1 := (T 8 (4 * a + s))) (by omega)  ((congrArg (h 124) (show (Int.toNat ((15 + (11 * ((a : Nat) : Int))) + (7 + ((s : Nat) : Int)))) = (22 + 11 * a + s) by omega)).trans ((hRT.1.2 a (by omega)).2.2.2.2.2 s (by omega))) (show 0 ≤ ((a : Nat) : Int) ∧ ((a : Nat) : Int) ≤ 11 ∧ 0 ≤ (7 + ((s : Nat) : Int)) ∧ (7 + ((s : Nat) : Int)) ≤ 10 by omega) ?_)
        show Aj γ mX9_makesBy d 0 0 Post 75 [(7, vI ((i : Nat) : Int)), (6, vI rd), (4, vI (acc + sm (gT T a b more s) i)), (5, vI ((s : Nat) : Int)), (0, vA 123), (1, vI ((a : Nat) : Int)), (2, vI ((b : Nat) : Int)), (3, vI more)] [vI (T 8 (4 * a + s)), vI (acc + sm (gT T a b more s) i)] (mk h τ)
        refine a_aload_n (j := 4) dX9_makesBy_75 rfl rfl (Nat.le_of_ble_eq_true rfl) ?_
        refine a_iload_n (j := 6) dX9_makesBy_76 rfl rfl ?_
        refine a_bipush dX9_makesBy_77 ⟨by decide, by decide, by decide⟩ ?_
        refine a_iload (j := 0) dX9_makesBy_79 rfl ?_
        refine a_iadd (z := (7 + ((i : Nat) : Int))) dX9_makesBy_81 (w_ok (by omega) (by omega)) ?_
        refine b_callV (d' := d - 1) (mc' := 0) (ms' := 0) (mc1 := 0) (ms1 := 0) (st := [vI (T 8 (4 * a + s)), vI (acc + sm (gT T a b more s) i)]) (b := 123) [vI ((b : Nat) : Int), vI (7 + ((i : Nat) : Int))] dX9_makesBy_82 mwX9_of lkX9_107 (by decide) rfl rc_X9 rfl (Nat.le_of_ble_eq_true rfl) (by omega) rfl rfl (c_X9_of (v1 := (T 8 (4 * b + i))) (by omega)  ((congrArg (h 124) (show (Int.toNat ((15 + (11 * ((b : Nat) : Int))) + (7 + ((i : Nat) : Int)))) = (22 + 11 * b + i) by omega)).trans ((hRT.1.2 b (by omega)).2.2.2.2.2 i (by omega))) (show 0 ≤ ((b : Nat) : Int) ∧ ((b : Nat) : Int) ≤ 11 ∧ 0 ≤ (7 + ((i : Nat) : Int)) ∧ (7 + ((i : Nat) : Int)) ≤ 10 by omega) ?_)
        show Aj γ mX9_makesBy d 0 0 Post 85 [(7, vI ((i : Nat) : Int)), (6, vI rd), (4, vI (acc + sm (gT T a b more s) i)), (5, vI ((s : Nat) : Int)), (0, vA 123), (1, vI ((a : Nat) : Int)), (2, vI ((b : Nat) : Int)), (3, vI more)] [vI (T 8 (4 * b + i)), vI (T 8 (4 * a + s)), vI (acc + sm (gT T a b more s) i)] (mk h τ)
        have hpr := mul_rng qa9s.1 qb9i.1
        refine a_imul (z := ((T 8 (4 * a + s)) * (T 8 (4 * b + i)))) dX9_makesBy_85 (w_ok (by omega) (by omega)) ?_
        refine a_goto (tgt := 90) dX9_makesBy_86 (by decide) ?_
        refine a_iadd (z := ((acc + sm (gT T a b more s) i) + ((T 8 (4 * a + s)) * (T 8 (4 * b + i))))) dX9_makesBy_90 (w_ok (by omega) (by omega)) ?_
        refine a_istore (lv' := [(4, vI ((acc + sm (gT T a b more s) i) + ((T 8 (4 * a + s)) * (T 8 (4 * b + i))))), (7, vI ((i : Nat) : Int)), (6, vI rd), (5, vI ((s : Nat) : Int)), (0, vA 123), (1, vI ((a : Nat) : Int)), (2, vI ((b : Nat) : Int)), (3, vI more)]) dX9_makesBy_91 (by decide) rfl ?_
        refine a_iinc (j := 1) (z' := ((i + 1 : Nat) : Int)) (lv' := [(7, vI ((i + 1 : Nat) : Int)), (4, vI ((acc + sm (gT T a b more s) i) + ((T 8 (4 * a + s)) * (T 8 (4 * b + i))))), (6, vI rd), (5, vI ((s : Nat) : Int)), (0, vA 123), (1, vI ((a : Nat) : Int)), (2, vI ((b : Nat) : Int)), (3, vI more)]) dX9_makesBy_93 rfl (w_okN (by omega) (by omega) (by omega)) (by decide) rfl ?_
        refine a_goto (tgt := 36) dX9_makesBy_96 (by decide) ?_
        have e : acc + sm (gT T a b more s) (i + 1) = ((acc + sm (gT T a b more s) i) + ((T 8 (4 * a + s)) * (T 8 (4 * b + i)))) := by rw [sm_s, gT_pos (by unfold msT; omega)]; omega
        have q := ih (i + 1) (by omega) (by omega)
        rw [e] at q
        exact a_lv (lv' := [(7, vI (((i + 1) : Nat) : Int)), (6, vI rd), (4, vI ((acc + sm (gT T a b more s) i) + ((T 8 (4 * a + s)) * (T 8 (4 * b + i))))), (5, vI ((s : Nat) : Int)), (0, vA 123), (1, vI ((a : Nat) : Int)), (2, vI ((b : Nat) : Int)), (3, vI more)]) (by intro q hq; simp only [List.mem_cons, List.not_mem_nil, or_false] at hq ⊢; rcases hq with rfl | rfl | rfl | rfl | rfl | rfl | rfl | rfl <;> simp) q
set_option maxHeartbeats 8000000 in
theorem l_mbS {γ : GT} {d : Nat} {T : Nat → Nat → Int} {a b : Nat} {more : Int} {h : Nat → Nat → Int} {τ : List AC} {Post : Option AV → List AC → Prop} (hd : 2 ≤ d) (hT : tOK T) (hRT : RT h T) (ha : (a : Int) < T 0 2) (hb : (b : Int) < T 0 2) (hm : 0 ≤ more ∧ more ≤ 999) (kQ : Post (some (vI (mkT T a b more))) (mk h τ)) :
    ∀ (f i : Nat), i ≤ 4 → 4 < i + f → Aj γ mX9_makesBy d 0 0 Post 6 [(5, vI ((i : Nat) : Int)), (4, vI (sm (fun s => sm (gT T a b more s) 4) i)), (0, vA 123), (1, vI ((a : Nat) : Int)), (2, vI ((b : Nat) : Int)), (3, vI more)] [] (mk h τ) := by
  intro f
  induction f with
  | zero => intro i h1 h2; omega
  | succ f ih =>
    intro i h1 h2
    have hso := gTo_rng hT (a := a) (b := b) (more := more) (i := i) (by omega)
    have h2_ := hT.2.2.1
    have h3_ := hT.2.2.2.1
    have qa := hT.2.2.2.2.2 a
    have qa3 := qa.2.1
    have qa4 := qa.2.2.1
    have qa5 := qa.2.2.2.1
    have qa6 := qa.2.2.2.2.1
    have qa7 := qa.2.2.2.2.2.1
    have qa8 := (qa.2.2.2.2.2.2.2 (by omega))
    have qaw := hT.2.2.2.2.1 (Int.toNat (T 3 a))
    have qb := hT.2.2.2.2.2 b
    have qb3 := qb.2.1
    have qb4 := qb.2.2.1
    have qb5 := qb.2.2.2.1
    have qb6 := qb.2.2.2.2.1
    have qb7 := qb.2.2.2.2.2.1
    have qb8 := (qb.2.2.2.2.2.2.2 (by omega))
    have qbw := hT.2.2.2.2.1 (Int.toNat (T 3 b))
    refine a_iload (j := 0) dX9_makesBy_6 rfl ?_
    refine a_iconst dX9_makesBy_8 ⟨by decide, by decide⟩ ?_
    refine a_icmp_ge (tgt := 105) dX9_makesBy_9 (by decide) (fun c9_1 => ?_) (fun c9_1 => ?_)
    · refine a_iload (j := 1) dX9_makesBy_105 rfl ?_
      exact a_iret dX9_makesBy_107 rfl (by obtain rfl : i = 4 := (by omega); exact kQ)
    · have qa9i := qa.2.2.2.2.2.2.1 i (by omega)
      refine a_aload_n (j := 2) dX9_makesBy_12 rfl rfl (Nat.le_of_ble_eq_true rfl) ?_
      refine a_iload_n (j := 3) dX9_makesBy_13 rfl rfl ?_
      refine a_iload (j := 0) dX9_makesBy_14 rfl ?_
      refine b_callV (d' := d - 1) (mc' := 0) (ms' := 0) (mc1 := 0) (ms1 := 0) (st := []) (b := 123) [vI ((a : Nat) : Int), vI ((i : Nat) : Int)] dX9_makesBy_16 mwX9_there lkX9_158 (by decide) rfl rc_X9 rfl (Nat.le_of_ble_eq_true rfl) (by omega) rfl rfl (c_X9_there (v1 := (T 6 a)) (v2 := (T 9 (4 * a + i) - T 6 a)) (v3 := (T 4 a)) (by omega)  ((congrArg (h 128) (show (Int.toNat ((a : Nat) : Int)) = a by omega)).trans (hRT.2.2 a (by omega)).1) ((congrArg (h 130) (show (Int.toNat ((4 * ((a : Nat) : Int)) + ((i : Nat) : Int))) = (4 * a + i) by omega)).trans ((hRT.2.2 a (by omega)).2.2 i (by omega))) ((congrArg (h 124) (show (Int.toNat ((15 + (11 * ((a : Nat) : Int))) + 4)) = (19 + 11 * a) by omega)).trans (hRT.1.2 a (by omega)).2.2.1) (show 0 ≤ ((a : Nat) : Int) ∧ ((a : Nat) : Int) ≤ 11 by omega) (show 0 ≤ ((i : Nat) : Int) ∧ ((i : Nat) : Int) ≤ 3 by omega) (show 0 ≤ (T 6 a) ∧ (T 6 a) ≤ 1559 by omega) (show 0 ≤ (T 9 (4 * a + i) - T 6 a) ∧ (T 9 (4 * a + i) - T 6 a) ≤ 1000 by omega) (show 1 ≤ (T 4 a) ∧ (T 4 a) ≤ 600 by omega) ?_)
      show Aj γ mX9_makesBy d 0 0 Post 19 [(5, vI ((i : Nat) : Int)), (4, vI (sm (fun s => sm (gT T a b more s) 4) i)), (0, vA 123), (1, vI ((a : Nat) : Int)), (2, vI ((b : Nat) : Int)), (3, vI more)] [vI ((T 6 a) + (T 9 (4 * a + i) - T 6 a) + (T 4 a))] (mk h τ)
      refine a_aload_n (j := 2) dX9_makesBy_19 rfl rfl (Nat.le_of_ble_eq_true rfl) ?_
      refine b_getp (a := 123) (p := 127) dX9_makesBy_20 fwX9_19 (by decide) rfl (by decide) rfl rfl ?_
      refine a_aload_n (j := 2) dX9_makesBy_23 rfl rfl (Nat.le_of_ble_eq_true rfl) ?_
      refine a_iload_n (j := 3) dX9_makesBy_24 rfl rfl ?_
      refine a_iconst dX9_makesBy_25 ⟨by decide, by decide⟩ ?_
      refine b_callV (d' := d - 1) (mc' := 0) (ms' := 0) (mc1 := 0) (ms1 := 0) (st := [vA 127, vI ((T 6 a) + (T 9 (4 * a + i) - T 6 a) + (T 4 a))]) (b := 123) [vI ((a : Nat) : Int), vI 2] dX9_makesBy_26 mwX9_of lkX9_107 (by decide) rfl rc_X9 rfl (Nat.le_of_ble_eq_true rfl) (by omega) rfl rfl (c_X9_of (v1 := (T 3 a)) (by omega)  ((congrArg (h 124) (show (Int.toNat ((15 + (11 * ((a : Nat) : Int))) + 2)) = (17 + 11 * a) by omega)).trans (hRT.1.2 a (by omega)).2.1) (show 0 ≤ ((a : Nat) : Int) ∧ ((a : Nat) : Int) ≤ 11 ∧ 0 ≤ 2 ∧ 2 ≤ 10 by omega) ?_)
      show Aj γ mX9_makesBy d 0 0 Post 29 [(5, vI ((i : Nat) : Int)), (4, vI (sm (fun s => sm (gT T a b more s) 4) i)), (0, vA 123), (1, vI ((a : Nat) : Int)), (2, vI ((b : Nat) : Int)), (3, vI more)] [vI (T 3 a), vA 127, vI ((T 6 a) + (T 9 (4 * a + i) - T 6 a) + (T 4 a))] (mk h τ)
      refine b_iaload (a := 127) (z := T 1 (Int.toNat (T 3 a))) (Int.toNat (T 3 a)) dX9_makesBy_29 (by decide) rfl (by omega) (by omega) (sp_nil rfl _) (hRT.2.1 _ (by omega)) (fun r29_2 => ?_)
      refine a_iadd (z := (((T 6 a) + (T 9 (4 * a + i) - T 6 a) + (T 4 a)) + (T 1 (Int.toNat (T 3 a))))) dX9_makesBy_30 (w_ok (by omega) (by omega)) ?_
      refine a_istore (lv' := [(6, vI (((T 6 a) + (T 9 (4 * a + i) - T 6 a) + (T 4 a)) + (T 1 (Int.toNat (T 3 a))))), (5, vI ((i : Nat) : Int)), (4, vI (sm (fun s => sm (gT T a b more s) 4) i)), (0, vA 123), (1, vI ((a : Nat) : Int)), (2, vI ((b : Nat) : Int)), (3, vI more)]) dX9_makesBy_31 (by decide) rfl ?_
      refine a_iconst dX9_makesBy_33 ⟨by decide, by decide⟩ ?_
      refine a_istore (lv' := [(7, vI 0), (6, vI (((T 6 a) + (T 9 (4 * a + i) - T 6 a) + (T 4 a)) + (T 1 (Int.toNat (T 3 a))))), (5, vI ((i : Nat) : Int)), (4, vI (sm (fun s => sm (gT T a b more s) 4) i)), (0, vA 123), (1, vI ((a : Nat) : Int)), (2, vI ((b : Nat) : Int)), (3, vI more)]) dX9_makesBy_34 (by decide) rfl ?_
      have q0 := l_mbR (γ := γ) (d := d) (τ := τ) (Post := Post) (more := more) (rd := (((T 6 a) + (T 9 (4 * a + i) - T 6 a) + (T 4 a)) + (T 1 (Int.toNat (T 3 a))))) (acc := sm (fun s => sm (gT T a b more s) 4) i) hd hT hRT ha hb (s := i) (by omega) hm (by omega) hso ?_ 5 0 (by omega) (by omega)
      · rw [show sm (fun s => sm (gT T a b more s) 4) i + sm (gT T a b more i) 0 = sm (fun s => sm (gT T a b more s) 4) i from Int.add_zero _] at q0
        exact a_lv (lv' := [(7, vI ((0 : Nat) : Int)), (6, vI (((T 6 a) + (T 9 (4 * a + i) - T 6 a) + (T 4 a)) + (T 1 (Int.toNat (T 3 a))))), (4, vI (sm (fun s => sm (gT T a b more s) 4) i)), (5, vI ((i : Nat) : Int)), (0, vA 123), (1, vI ((a : Nat) : Int)), (2, vI ((b : Nat) : Int)), (3, vI more)]) (by intro q hq; simp only [List.mem_cons, List.not_mem_nil, or_false] at hq ⊢; rcases hq with rfl | rfl | rfl | rfl | rfl | rfl | rfl | rfl <;> simp) q0
      · intro x7
        rw [show sm (fun s => sm (gT T a b more s) 4) i + sm (gT T a b more i) 4 = sm (fun s => sm (gT T a b more s) 4) (i + 1) from rfl]
        refine a_iinc (j := 3) (z' := ((i + 1 : Nat) : Int)) (lv' := [(5, vI ((i + 1 : Nat) : Int)), (7, vI x7), (6, vI (((T 6 a) + (T 9 (4 * a + i) - T 6 a) + (T 4 a)) + (T 1 (Int.toNat (T 3 a))))), (4, vI (sm (fun s => sm (gT T a b more s) 4) (i + 1))), (0, vA 123), (1, vI ((a : Nat) : Int)), (2, vI ((b : Nat) : Int)), (3, vI more)]) dX9_makesBy_99 rfl (w_okN (by omega) (by omega) (by omega)) (by decide) rfl ?_
        refine a_goto (tgt := 6) dX9_makesBy_102 (by decide) ?_
        refine a_lv (lv' := [(5, vI (((i + 1) : Nat) : Int)), (4, vI (sm (fun s => sm (gT T a b more s) 4) (i + 1))), (0, vA 123), (1, vI ((a : Nat) : Int)), (2, vI ((b : Nat) : Int)), (3, vI more)]) (by intro q hq; simp only [List.mem_cons, List.not_mem_nil, or_false] at hq ⊢; rcases hq with rfl | rfl | rfl | rfl | rfl | rfl <;> simp) (ih (i + 1) (by omega) (by omega))
theorem c_X9_makesBy {γ : GT} {d : Nat} {T : Nat → Nat → Int} {a b : Nat} {more : Int} {h : Nat → Nat → Int} {τ : List AC} {Post : Option AV → List AC → Prop} (hd : 2 ≤ d) (hT : tOK T) (hRT : RT h T) (ha : (a : Int) < T 0 2) (hb : (b : Int) < T 0 2) (hm : 0 ≤ more ∧ more ≤ 999) (kQ : Post (some (vI (mkT T a b more))) (mk h τ)) : Cj γ mX9_makesBy d 0 0 [vA 123, vI ((a : Nat) : Int), vI ((b : Nat) : Int), vI more] (mk h τ) Post := by
  refine c_of (by decide) (Nat.le_of_ble_eq_true rfl) ?_
  show Aj γ mX9_makesBy d 0 0 Post 0 [(0, vA 123), (1, vI ((a : Nat) : Int)), (2, vI ((b : Nat) : Int)), (3, vI more)] [] (mk h τ)
  refine a_iconst dX9_makesBy_0 ⟨by decide, by decide⟩ ?_
  refine a_istore (lv' := [(4, vI 0), (0, vA 123), (1, vI ((a : Nat) : Int)), (2, vI ((b : Nat) : Int)), (3, vI more)]) dX9_makesBy_1 (by decide) rfl ?_
  refine a_iconst dX9_makesBy_3 ⟨by decide, by decide⟩ ?_
  refine a_istore (lv' := [(5, vI 0), (4, vI 0), (0, vA 123), (1, vI ((a : Nat) : Int)), (2, vI ((b : Nat) : Int)), (3, vI more)]) dX9_makesBy_4 (by decide) rfl ?_
  exact a_lv (lv' := [(5, vI ((0 : Nat) : Int)), (4, vI 0), (0, vA 123), (1, vI ((a : Nat) : Int)), (2, vI ((b : Nat) : Int)), (3, vI more)]) (by intro q hq; simp only [List.mem_cons, List.not_mem_nil, or_false] at hq ⊢; rcases hq with rfl | rfl | rfl | rfl | rfl | rfl <;> simp) (l_mbS (more := more) hd hT hRT ha hb hm kQ 5 0 (by omega) (by omega))
