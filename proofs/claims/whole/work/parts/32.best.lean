/-! THE CLASS'S CHARTS: the row of chart c is right up to place P -/
def CHp (h : Nat → Nat → Int) (c : Nat) (κ : Int) (T : Nat → Nat → Int) (P : Int) : Prop := ∀ s m : Int, 0 ≤ s → s < 6 → ¬ s = T 0 0 → 0 ≤ m → m ≤ 1590 → plT T m ≤ P → h (c + 1) (Int.toNat (s * 373 + plT T m)) = WT κ T s m
def TKk (κ : Int) (T : Nat → Nat → Int) (stop m : Int) : Int := if stop = T 0 0 then -1 else (bsT κ T (WT κ T) stop m (Int.toNat (T 0 2))).1
theorem TT_pl {h T : Nat → Nat → Int} (hTT : TT h T) {m : Int} (h0 : 0 ≤ m) (h1 : m ≤ 1589) : h 74 (Int.toNat m) = plT T m := by
  have := hTT.2.2.2.2.1 (Int.toNat m) (by omega)
  rw [this, show ((Int.toNat m : Nat) : Int) = m by omega]
theorem WT_rng {κ : Int} {T : Nat → Nat → Int} (hκ : κ = 0 ∨ κ = 1) (h : tOK T) {stop m : Int} (h0 : 0 ≤ m) (h1 : m ≤ 5000) : 0 ≤ WT κ T stop m ∧ WT κ T stop m ≤ 500000 := by
  rcases hκ with rfl | rfl
  · exact WT0_rng h h0 h1
  · have := WT1_rng h (stop := stop) (m := m); omega
theorem bsT_s (κ : Int) (T : Nat → Nat → Int) (g : Int → Int → Int) (stop m : Int) (n : Nat) : bsT κ T g stop m (n + 1) = if T 2 n = stop ∧ m ≤ lsT T n then (if (bsT κ T g stop m n).1 < 0 ∨ ((κ = 1 ∧ (bsT κ T g stop m n).2 < bhT κ T g n m) ∨ (¬ κ = 1 ∧ bhT κ T g n m < (bsT κ T g stop m n).2)) then ((n : Int), bhT κ T g n m) else bsT κ T g stop m n) else bsT κ T g stop m n := rfl
theorem bsT_rng (κ : Int) (T : Nat → Nat → Int) (g : Int → Int → Int) (stop m : Int) : ∀ n : Nat, -1 ≤ (bsT κ T g stop m n).1 ∧ (bsT κ T g stop m n).1 < n
  | 0 => by show -1 ≤ (-1 : Int) ∧ (-1 : Int) < ((0 : Nat) : Int); omega
  | n + 1 => by
    have ih := bsT_rng κ T g stop m n
    rw [bsT_s]
    split
    · split
      · show -1 ≤ (n : Int) ∧ (n : Int) < ((n + 1 : Nat) : Int); omega
      · omega
    · omega
theorem hsF_c (z : Int) : (z < 0 ∧ hsF z = -1000000005) ∨ (0 ≤ z ∧ hsF z = z) := by
  unfold hsF
  by_cases c : z < 0
  · rw [if_pos c]; exact Or.inl ⟨c, rfl⟩
  · rw [if_neg c]; exact Or.inr ⟨by omega, rfl⟩
theorem dm_s (T : Nat → Nat → Int) (g : Int → Int → Int) (t : Nat) (m : Int) (k : Nat) : dmT T g t m (k + 1) = if T 8 (4 * t + k) = 0 then dmT T g t m k else mxF (dmT T g t m k) (g (T 3 t) (arT T t k m)) := rfl
theorem mn_s (T : Nat → Nat → Int) (g : Int → Int → Int) (t : Nat) (m : Int) (k : Nat) : mnT T g t m (k + 1) = mnT T g t m k + T 8 (4 * t + k) * g (T 3 t) (arT T t k m) := rfl
theorem mn_z {T : Nat → Nat → Int} {g : Int → Int → Int} {t : Nat} {m : Int} {k : Nat} (h : T 8 (4 * t + k) = 0) : mnT T g t m (k + 1) = mnT T g t m k := by
  rw [mn_s, h, Int.zero_mul, Int.add_zero]
theorem TT_fr {h h' T : Nat → Nat → Int} {L : List Nat} (hL : ∀ c, c ∈ [63, 64, 65, 66, 67, 68, 69, 70, 71, 72, 73, 74] → c ∉ L) (hF : Fr L h h') (hTT : TT h T) : TT h' T := by
  have q : ∀ c, c ∈ [63, 64, 65, 66, 67, 68, 69, 70, 71, 72, 73, 74] → h' c = h c := fun c a => hF c (hL c a)
  unfold TT TTm
  rw [q 63 (by decide), q 64 (by decide), q 65 (by decide), q 66 (by decide), q 67 (by decide), q 68 (by decide), q 69 (by decide), q 70 (by decide), q 71 (by decide), q 72 (by decide), q 73 (by decide), q 74 (by decide)]
  exact hTT
theorem CHp_fr {h h' : Nat → Nat → Int} {c : Nat} {κ : Int} {T : Nat → Nat → Int} {P : Int} (e : h' (c + 1) = h (c + 1)) (hC : CHp h c κ T P) : CHp h' c κ T P := by
  unfold CHp
  rw [e]
  exact hC
set_option maxHeartbeats 4000000 in
theorem c_X0_worthAt_78 {γ : GT} {d : Nat} {κ : Int} {T : Nat → Nat → Int} {s m : Int} {h : Nat → Nat → Int} {τ : List AC} {Post : Option AV → List AC → Prop} (hd : 1 ≤ d) (hκ0 : h 78 0 = κ) (hκ : κ = 0) (hT : tOK T) (hTT : TT h T) (hs : 0 ≤ s ∧ s ≤ 5) (hm : 0 ≤ m ∧ m ≤ 5000) (hC : ¬ s = T 0 0 → m ≤ 1589 → h 79 (Int.toNat (s * 373 + plT T m)) = WT κ T s m) (kQ : Post (some (vI (WT κ T s m))) (mk h τ)) : Cj γ mX0_worthAt d 0 0 [vA 78, vA 63, vI s, vI m] (mk h τ) Post := by
  refine c_of (by decide) (Nat.le_of_ble_eq_true rfl) ?_
  show Aj γ mX0_worthAt d 0 0 Post 0 [(0, vA 78), (1, vA 63), (2, vI s), (3, vI m)] [] (mk h τ)
  refine a_iload_n (j := 2) dX0_worthAt_0 rfl rfl ?_
  refine a_aload_n (j := 1) dX0_worthAt_1 rfl rfl (Nat.le_of_ble_eq_true rfl) ?_
  refine b_get (a := 63) (z := T 0 0) (t := 0) dX0_worthAt_2 fwX0_67 (by decide) rfl (by decide) rfl rfl hTT.1.1 ?_
  refine a_icmp_ne (tgt := 18) dX0_worthAt_5 (by decide) (fun c5_1 => ?_) (fun c5_1 => ?_)
  · refine a_iload_n (j := 3) dX0_worthAt_18 rfl rfl ?_
    refine a_iconst dX0_worthAt_19 ⟨by decide, by decide⟩ ?_
    refine a_sipush dX0_worthAt_20 ⟨by decide, by decide, by decide⟩ ?_
    refine a_callS (d' := d - 1) (mc' := 0) (ms' := 0) (mc1 := 0) (ms1 := 0) (st := []) [vI m, vI 0, vI 1589] dX0_worthAt_23 mwX8_within lkX0_53 rfl (Nat.le_of_ble_eq_true rfl) (by omega) rfl rfl (c_X8_within  (by omega)    (fun t23_2 => ?_) (fun t23_2 => ?_))
    · have t23_2 : 0 ≤ m ∧ m ≤ 1589 := t23_2
      show Aj γ mX0_worthAt d 0 0 Post 26 [(0, vA 78), (1, vA 63), (2, vI s), (3, vI m)] [vI 1] (mk h τ)
      refine a_if_ne (tgt := 34) dX0_worthAt_26 (by decide) (fun _ => ?_) (fun c => absurd c (by decide))
      refine a_aload_n (j := 0) dX0_worthAt_34 rfl rfl (Nat.le_of_ble_eq_true rfl) ?_
      refine b_getp (a := 78) (p := 79) dX0_worthAt_35 fwX0_11 (by decide) rfl (by decide) rfl rfl ?_
      refine a_iload_n (j := 2) dX0_worthAt_38 rfl rfl ?_
      refine a_sipush dX0_worthAt_39 ⟨by decide, by decide, by decide⟩ ?_
      refine a_imul (z := (s * 373)) dX0_worthAt_42 (w_ok (by omega) (by omega)) ?_
      refine a_aload_n (j := 1) dX0_worthAt_43 rfl rfl (Nat.le_of_ble_eq_true rfl) ?_
      refine b_getp (a := 63) (p := 74) dX0_worthAt_44 fwX0_77 (by decide) rfl (by decide) rfl rfl ?_
      refine a_iload_n (j := 3) dX0_worthAt_47 rfl rfl ?_
      refine b_iaload (a := 74) (z := plT T m) (Int.toNat m) dX0_worthAt_48 (by decide) rfl (by omega) (by omega) (sp_nil rfl _) (TT_pl hTT (by omega) (by omega)) (fun r48_3 => ?_)
      have hpl := plT_rng hT m
      refine a_iadd (z := ((s * 373) + (plT T m))) dX0_worthAt_49 (w_ok (by omega) (by omega)) ?_
      refine b_iaload (a := 79) (z := WT κ T s m) (Int.toNat (s * 373 + plT T m)) dX0_worthAt_50 (by decide) rfl (by omega) (by omega) (sp_nil rfl _) (hC (by omega) (by omega)) (fun r50_4 => ?_)
      exact a_iret dX0_worthAt_51 rfl kQ
    · have t23_2 : ¬ (0 ≤ m ∧ m ≤ 1589) := t23_2
      show Aj γ mX0_worthAt d 0 0 Post 26 [(0, vA 78), (1, vA 63), (2, vI s), (3, vI m)] [vI 0] (mk h τ)
      refine a_if_ne (tgt := 34) dX0_worthAt_26 (by decide) (fun c => absurd c (by decide)) (fun _ => ?_)
      refine a_aload_n (j := 0) dX0_worthAt_29 rfl rfl (Nat.le_of_ble_eq_true rfl) ?_
      refine b_callV (d' := d - 1) (mc' := 0) (ms' := 0) (mc1 := 0) (ms1 := 0) (st := []) (b := 78) [] dX0_worthAt_30 mwX0_worthOfNone lkX0_33 (by decide) rfl rc_X0 rfl (Nat.le_of_ble_eq_true rfl) (by omega) rfl rfl (c_X0_worthOfNone (v1 := κ) (by omega) (Or.inl rfl) hκ0  ?_)
      show Aj γ mX0_worthAt d 0 0 Post 33 [(0, vA 78), (1, vA 63), (2, vI s), (3, vI m)] [vI (wonF κ)] (mk h τ)
      exact a_iret dX0_worthAt_33 rfl (post_v kQ (by rw [WT_late hT (by omega) (by omega)]))
  · refine a_aload_n (j := 0) dX0_worthAt_8 rfl rfl (Nat.le_of_ble_eq_true rfl) ?_
    refine a_iload_n (j := 3) dX0_worthAt_9 rfl rfl ?_
    refine a_aload_n (j := 1) dX0_worthAt_10 rfl rfl (Nat.le_of_ble_eq_true rfl) ?_
    refine b_get (a := 63) (z := T 0 1) (t := 0) dX0_worthAt_11 fwX0_70 (by decide) rfl (by decide) rfl rfl hTT.1.2.1 ?_
    refine b_callV (d' := d - 1) (mc' := 0) (ms' := 0) (mc1 := 0) (ms1 := 0) (st := []) (b := 78) [vI m, vI (T 0 1)] dX0_worthAt_14 mwX0_worthAtGoal lkX0_73 (by decide) rfl rc_X0 rfl (Nat.le_of_ble_eq_true rfl) (by omega) rfl rfl (c_X0_worthAtGoal (v1 := κ) (by omega) (Or.inl rfl) hκ0 (show 0 ≤ m ∧ m ≤ 10000 by omega) ?_)
    show Aj γ mX0_worthAt d 0 0 Post 17 [(0, vA 78), (1, vA 63), (2, vI s), (3, vI m)] [vI (wogF κ m (T 0 1))] (mk h τ)
    exact a_iret dX0_worthAt_17 rfl (post_v kQ (by rw [WT_eq hT (by omega), if_pos (by omega)]))
set_option maxHeartbeats 8000000 in
theorem l_mb_78 {γ : GT} {d : Nat} {κ : Int} {T : Nat → Nat → Int} {t : Nat} {m P : Int} {h : Nat → Nat → Int} {τ : List AC} {Post : Option AV → List AC → Prop} (hd : 2 ≤ d) (hκ0 : h 78 0 = κ) (hκ : κ = 0) (hT : tOK T) (hTT : TT h T) (ht : (t : Int) < T 0 2) (hm : 0 ≤ m ∧ m ≤ 1589) (hC : CHp h 78 κ T P) (hP : plT T (m + 1) ≤ P) (kQ : Post (some (vI (bhT κ T (WT κ T) t m))) (mk h τ)) :
    ∀ (f i : Nat), i ≤ 4 → 4 < i + f → Aj γ mX0_meanBehind d 0 0 Post 6 [(5, vI ((i : Nat) : Int)), (4, vI (mnT T (WT κ T) t m i)), (0, vA 78), (1, vA 63), (2, vI ((t : Nat) : Int)), (3, vI m)] [] (mk h τ) := by
  intro f
  induction f with
  | zero => intro i h1 h2; omega
  | succ f ih =>
    intro i h1 h2
    have h2_ := hT.2.2.1
    have hb := hT.2.2.2.2.2 t
    have hb2 := hb.2.1
    have hb3 := hb.2.2.1
    have hb5 := hb.2.2.2.1
    have hb6 := hb.2.2.2.2.1
    have hb7 := hb.2.2.2.2.2.1
    have hb8 := (hb.2.2.2.2.2.2.2 (by omega)).2.1
    have hw1 := hT.2.2.2.2.1 (Int.toNat (T 3 t))
    have hmn := mn_rng hT (g := WT κ T) (t := t) (m := m) (b := 500000) ht (by omega) (fun s hs => by have ha := arT_rng hT (t := t) (s := s) (m := m) hs; exact WT_rng (by omega) hT (by omega) (by omega))
    refine a_iload (j := 0) dX0_meanBehind_6 rfl ?_
    refine a_iconst dX0_meanBehind_8 ⟨by decide, by decide⟩ ?_
    refine a_icmp_ge (tgt := 63) dX0_meanBehind_9 (by decide) (fun c9_1 => ?_) (fun c9_1 => ?_)
    · obtain rfl : i = 4 := (by omega)
      have q1 := hmn 4 (by omega)
      refine a_iload (j := 1) dX0_meanBehind_63 rfl ?_
      refine a_bipush dX0_meanBehind_65 ⟨by decide, by decide, by decide⟩ ?_
      refine a_idiv (z := ((mnT T (WT κ T) t m 4) / 100)) dX0_meanBehind_67 (by omega) (w_divN (by omega) (by omega) (by omega)) ?_
      exact a_iret dX0_meanBehind_68 rfl (post_v kQ (by unfold bhT; rw [if_neg (by omega)]))
    · have hs9 := hb.2.2.2.2.2.2.1 i (by omega)
      have har := arT_rng hT (t := t) (s := i) (m := m) (by omega)
      have q1 := hmn i (by omega)
      have q2 := hmn (i + 1) (by omega)
      rw [mn_s] at q2
      refine a_aload_n (j := 3) dX0_meanBehind_12 rfl rfl (Nat.le_of_ble_eq_true rfl) ?_
      refine b_getp (a := 63) (p := 71) dX0_meanBehind_13 fwX0_93 (by decide) rfl (by decide) rfl rfl ?_
      refine a_iload_n (j := 4) dX0_meanBehind_16 rfl rfl ?_
      refine a_iconst dX0_meanBehind_17 ⟨by decide, by decide⟩ ?_
      refine a_imul (z := (((t : Nat) : Int) * 4)) dX0_meanBehind_18 (w_ok (by omega) (by omega)) ?_
      refine a_iload (j := 0) dX0_meanBehind_19 rfl ?_
      refine a_iadd (z := ((((t : Nat) : Int) * 4) + ((i : Nat) : Int))) dX0_meanBehind_21 (w_ok (by omega) (by omega)) ?_
      refine b_iaload (a := 71) (z := T 8 (4 * t + i)) (4 * t + i) dX0_meanBehind_22 (by decide) rfl (by omega) (by omega) (sp_nil rfl _) ((hTT.2.2.1 t (by omega)).2.2.2.2.2.2 i (by omega)).1 (fun r22_2 => ?_)
      refine a_istore (lv' := [(6, vI (T 8 (4 * t + i))), (5, vI ((i : Nat) : Int)), (4, vI (mnT T (WT κ T) t m i)), (0, vA 78), (1, vA 63), (2, vI ((t : Nat) : Int)), (3, vI m)]) dX0_meanBehind_23 (by decide) rfl ?_
      refine a_iload (j := 0) dX0_meanBehind_25 rfl ?_
      refine a_if_eq (tgt := 57) dX0_meanBehind_27 (by decide) (fun c27_3 => ?_) (fun c27_3 => ?_)
      · refine a_iinc (j := 1) (z' := ((i + 1 : Nat) : Int)) (lv' := [(5, vI ((i + 1 : Nat) : Int)), (6, vI (T 8 (4 * t + i))), (4, vI (mnT T (WT κ T) t m i)), (0, vA 78), (1, vA 63), (2, vI ((t : Nat) : Int)), (3, vI m)]) dX0_meanBehind_57 rfl (w_okN (by omega) (by omega) (by omega)) (by decide) rfl ?_
        refine a_goto (tgt := 6) dX0_meanBehind_60 (by decide) ?_
        have e : mnT T (WT κ T) t m (i + 1) = (mnT T (WT κ T) t m i) := mn_z (by omega)
        have q := ih (i + 1) (by omega) (by omega)
        rw [e] at q
        exact a_lv (lv' := [(5, vI (((i + 1) : Nat) : Int)), (4, vI (mnT T (WT κ T) t m i)), (0, vA 78), (1, vA 63), (2, vI ((t : Nat) : Int)), (3, vI m)]) (by intro q hq; simp only [List.mem_cons, List.not_mem_nil, or_false] at hq ⊢; rcases hq with rfl | rfl | rfl | rfl | rfl | rfl <;> simp) q
      · refine a_iload (j := 2) dX0_meanBehind_30 rfl ?_
        refine a_iload (j := 0) dX0_meanBehind_32 rfl ?_
        refine a_aload_n (j := 3) dX0_meanBehind_34 rfl rfl (Nat.le_of_ble_eq_true rfl) ?_
        refine a_aload_n (j := 4) dX0_meanBehind_35 rfl rfl (Nat.le_of_ble_eq_true rfl) ?_
        refine a_aload_n (j := 4) dX0_meanBehind_36 rfl rfl (Nat.le_of_ble_eq_true rfl) ?_
        refine b_getp (a := 63) (p := 66) dX0_meanBehind_37 fwX0_96 (by decide) rfl (by decide) rfl rfl ?_
        refine a_iload_n (j := 5) dX0_meanBehind_40 rfl rfl ?_
        refine b_iaload (a := 66) (z := T 3 t) t dX0_meanBehind_41 (by decide) rfl rfl (by omega) (sp_nil rfl _) (hTT.2.2.1 t (by omega)).2.1 (fun r41_4 => ?_)
        refine a_aload_n (j := 4) dX0_meanBehind_42 rfl rfl (Nat.le_of_ble_eq_true rfl) ?_
        refine a_iload_n (j := 5) dX0_meanBehind_43 rfl rfl ?_
        refine a_iload (j := 1) dX0_meanBehind_44 rfl ?_
        refine a_iload_n (j := 6) dX0_meanBehind_46 rfl rfl ?_
        refine b_callV (d' := d - 1) (mc' := 0) (ms' := 0) (mc1 := 0) (ms1 := 0) (st := [vI (T 3 t), vA 63, vA 78, vI (T 8 (4 * t + i)), vI (mnT T (WT κ T) t m i)]) (b := 63) [vI ((t : Nat) : Int), vI ((i : Nat) : Int), vI m] dX0_meanBehind_47 mwX5_arrival lkX0_99 (by decide) rfl rc_X5 rfl (Nat.le_of_ble_eq_true rfl) (by omega) rfl rfl (c_X5_arrival (v1 := (T 9 (4 * t + i))) (v2 := (T 4 t)) (v3 := (T 3 t)) (v4 := (T 1 (Int.toNat (T 3 t)))) (v5 := (T 0 0)) (by omega)  ((congrArg (h 72) (show (Int.toNat ((((t : Nat) : Int) * 4) + ((i : Nat) : Int))) = (4 * t + i) by omega)).trans ((hTT.2.2.1 t (by omega)).2.2.2.2.2.2 i (by omega)).2) ((congrArg (h 67) (show (Int.toNat ((t : Nat) : Int)) = t by omega)).trans (hTT.2.2.1 t (by omega)).2.2.1) ((congrArg (h 66) (show (Int.toNat ((t : Nat) : Int)) = t by omega)).trans (hTT.2.2.1 t (by omega)).2.1) (hTT.2.1 _ (by omega)) hTT.1.1 (show 0 ≤ ((t : Nat) : Int) ∧ ((t : Nat) : Int) ≤ 11 by omega) (show 0 ≤ ((i : Nat) : Int) ∧ ((i : Nat) : Int) ≤ 3 by omega) (show 0 ≤ (T 9 (4 * t + i)) ∧ (T 9 (4 * t + i)) ≤ 3000 by omega) (show 1 ≤ (T 4 t) ∧ (T 4 t) ≤ 600 by omega) (show 0 ≤ (T 3 t) ∧ (T 3 t) ≤ 5 by omega) (show 0 ≤ (T 1 (Int.toNat (T 3 t))) ∧ (T 1 (Int.toNat (T 3 t))) ≤ 99 by omega) (show 0 ≤ m ∧ m ≤ 5000 by omega) ?_)
        show Aj γ mX0_meanBehind d 0 0 Post 50 [(6, vI (T 8 (4 * t + i))), (5, vI ((i : Nat) : Int)), (4, vI (mnT T (WT κ T) t m i)), (0, vA 78), (1, vA 63), (2, vI ((t : Nat) : Int)), (3, vI m)] [vI (arrF (T 9 (4 * t + i)) m (T 4 t) (T 3 t) (T 0 0) (T 1 (Int.toNat (T 3 t)))), vI (T 3 t), vA 63, vA 78, vI (T 8 (4 * t + i)), vI (mnT T (WT κ T) t m i)] (mk h τ)
        show Aj γ mX0_meanBehind d 0 0 Post 50 [(6, vI (T 8 (4 * t + i))), (5, vI ((i : Nat) : Int)), (4, vI (mnT T (WT κ T) t m i)), (0, vA 78), (1, vA 63), (2, vI ((t : Nat) : Int)), (3, vI m)] [vI (arT T t i m), vI (T 3 t), vA 63, vA 78, vI (T 8 (4 * t + i)), vI (mnT T (WT κ T) t m i)] (mk h τ)
        refine b_callV (d' := d - 1) (mc' := 0) (ms' := 0) (mc1 := 0) (ms1 := 0) (st := [vI (T 8 (4 * t + i)), vI (mnT T (WT κ T) t m i)]) (b := 78) [vA 63, vI (T 3 t), vI (arT T t i m)] dX0_meanBehind_50 mwX0_worthAt lkX0_103 (by decide) rfl rc_X0 rfl (Nat.le_of_ble_eq_true rfl) (by omega) rfl rfl (c_X0_worthAt_78 (κ := κ) (T := T) (s := T 3 t) (m := (arT T t i m)) (by omega) hκ0 hκ hT hTT (by omega) (by omega) (fun h1 h2 => hC _ _ (by omega) (by omega) h1 (by omega) (by omega) (Int.le_trans (plT_mono (by omega)) hP)) ?_)
        show Aj γ mX0_meanBehind d 0 0 Post 53 [(6, vI (T 8 (4 * t + i))), (5, vI ((i : Nat) : Int)), (4, vI (mnT T (WT κ T) t m i)), (0, vA 78), (1, vA 63), (2, vI ((t : Nat) : Int)), (3, vI m)] [vI (WT κ T (T 3 t) (arT T t i m)), vI (T 8 (4 * t + i)), vI (mnT T (WT κ T) t m i)] (mk h τ)
        have hwr := WT_rng (κ := κ) (by omega) hT (stop := T 3 t) (m := arT T t i m) (by omega) (by omega)
        refine a_imul (z := ((T 8 (4 * t + i)) * (WT κ T (T 3 t) (arT T t i m)))) dX0_meanBehind_53 (w_ok (by omega) (by omega)) ?_
        refine a_iadd (z := ((mnT T (WT κ T) t m i) + ((T 8 (4 * t + i)) * (WT κ T (T 3 t) (arT T t i m))))) dX0_meanBehind_54 (w_ok (by omega) (by omega)) ?_
        refine a_istore (lv' := [(4, vI ((mnT T (WT κ T) t m i) + ((T 8 (4 * t + i)) * (WT κ T (T 3 t) (arT T t i m))))), (6, vI (T 8 (4 * t + i))), (5, vI ((i : Nat) : Int)), (0, vA 78), (1, vA 63), (2, vI ((t : Nat) : Int)), (3, vI m)]) dX0_meanBehind_55 (by decide) rfl ?_
        refine a_iinc (j := 2) (z' := ((i + 1 : Nat) : Int)) (lv' := [(5, vI ((i + 1 : Nat) : Int)), (4, vI ((mnT T (WT κ T) t m i) + ((T 8 (4 * t + i)) * (WT κ T (T 3 t) (arT T t i m))))), (6, vI (T 8 (4 * t + i))), (0, vA 78), (1, vA 63), (2, vI ((t : Nat) : Int)), (3, vI m)]) dX0_meanBehind_57 rfl (w_okN (by omega) (by omega) (by omega)) (by decide) rfl ?_
        refine a_goto (tgt := 6) dX0_meanBehind_60 (by decide) ?_
        have e : mnT T (WT κ T) t m (i + 1) = ((mnT T (WT κ T) t m i) + ((T 8 (4 * t + i)) * (WT κ T (T 3 t) (arT T t i m)))) := rfl
        have q := ih (i + 1) (by omega) (by omega)
        rw [e] at q
        exact a_lv (lv' := [(5, vI (((i + 1) : Nat) : Int)), (4, vI ((mnT T (WT κ T) t m i) + ((T 8 (4 * t + i)) * (WT κ T (T 3 t) (arT T t i m))))), (0, vA 78), (1, vA 63), (2, vI ((t : Nat) : Int)), (3, vI m)]) (by intro q hq; simp only [List.mem_cons, List.not_mem_nil, or_false] at hq ⊢; rcases hq with rfl | rfl | rfl | rfl | rfl | rfl <;> simp) q
theorem c_X0_meanBehind_78 {γ : GT} {d : Nat} {κ : Int} {T : Nat → Nat → Int} {t : Nat} {m P : Int} {h : Nat → Nat → Int} {τ : List AC} {Post : Option AV → List AC → Prop} (hd : 2 ≤ d) (hκ0 : h 78 0 = κ) (hκ : κ = 0) (hT : tOK T) (hTT : TT h T) (ht : (t : Int) < T 0 2) (hm : 0 ≤ m ∧ m ≤ 1589) (hC : CHp h 78 κ T P) (hP : plT T (m + 1) ≤ P) (kQ : Post (some (vI (bhT κ T (WT κ T) t m))) (mk h τ)) : Cj γ mX0_meanBehind d 0 0 [vA 78, vA 63, vI ((t : Nat) : Int), vI m] (mk h τ) Post := by
  refine c_of (by decide) (Nat.le_of_ble_eq_true rfl) ?_
  show Aj γ mX0_meanBehind d 0 0 Post 0 [(0, vA 78), (1, vA 63), (2, vI ((t : Nat) : Int)), (3, vI m)] [] (mk h τ)
  refine a_iconst dX0_meanBehind_0 ⟨by decide, by decide⟩ ?_
  refine a_istore (lv' := [(4, vI 0), (0, vA 78), (1, vA 63), (2, vI ((t : Nat) : Int)), (3, vI m)]) dX0_meanBehind_1 (by decide) rfl ?_
  refine a_iconst dX0_meanBehind_3 ⟨by decide, by decide⟩ ?_
  refine a_istore (lv' := [(5, vI 0), (4, vI 0), (0, vA 78), (1, vA 63), (2, vI ((t : Nat) : Int)), (3, vI m)]) dX0_meanBehind_4 (by decide) rfl ?_
  exact a_lv (lv' := [(5, vI ((0 : Nat) : Int)), (4, vI 0), (0, vA 78), (1, vA 63), (2, vI ((t : Nat) : Int)), (3, vI m)]) (by intro q hq; simp only [List.mem_cons, List.not_mem_nil, or_false] at hq ⊢; rcases hq with rfl | rfl | rfl | rfl | rfl | rfl <;> simp) (l_mb_78 hd hκ0 hκ hT hTT ht hm hC hP kQ 5 0 (by omega) (by omega))
set_option maxHeartbeats 8000000 in
theorem l_bt_78 {γ : GT} {d : Nat} {κ : Int} {T : Nat → Nat → Int} {n : Nat} {s m P : Int} {h : Nat → Nat → Int} {τ : List AC} {Post : Option AV → List AC → Prop} (hd : 3 ≤ d) (hκ0 : h 78 0 = κ) (hκ : κ = 0) (hT : tOK T) (hTT : TT h T) (hs : 0 ≤ s ∧ s ≤ 5) (hm : 0 ≤ m ∧ m ≤ 5000) (hC : CHp h 78 κ T P) (hP : m ≤ 1589 → plT T (m + 1) ≤ P) (hn : T 0 2 = ((n : Nat) : Int)) (kQ : ∀ h', Fr [78] h h' → (∀ k, k ≠ 3 → h' 78 k = h 78 k) → (¬ s = T 0 0 → h' 78 3 = (bsT κ T (WT κ T) s m (Int.toNat (T 0 2))).2) → Post (some (vI (hsF (TKk κ T s m)))) (mk h' τ)) :
    ∀ (f i : Nat) (h1 : Nat → Nat → Int), i ≤ n → n < i + f → Fr [78] h h1 → (h1 78 3 = (bsT κ T (WT κ T) s m i).2) → (∀ k, k ≠ 3 → h1 78 k = h 78 k) → (¬ s = T 0 0 ∨ i = 0) → Aj γ mX0_bestTrain d 0 0 Post 15 [(5, vI ((i : Nat) : Int)), (4, vI (hsF (bsT κ T (WT κ T) s m i).1)), (0, vA 78), (1, vA 63), (2, vI s), (3, vI m)] [] (mk h1 τ) := by
  intro f
  induction f with
  | zero => intro i h1  h1_ h2_; omega
  | succ f ih =>
    intro i h1  h1_ h2_ hF ib iq ig
    have h2_ := hT.2.2.1
    have hb := hT.2.2.2.2.2 i
    have hb6 := hb.2.2.2.2.1
    have hb7 := hb.2.2.2.2.2.1
    have hbr := bsT_rng κ T (WT κ T) s m i
    have hhs := hsF_c (bsT κ T (WT κ T) s m i).1
    have hls := lsT_rng hT i
    have hlq : lsT T i = T 6 i + T 7 i := rfl
    refine a_iload (j := 0) dX0_bestTrain_15 rfl ?_
    refine a_aload_n (j := 3) dX0_bestTrain_17 rfl rfl (Nat.le_of_ble_eq_true rfl) ?_
    refine b_get (a := 63) (z := ((n : Nat) : Int)) (t := 0) dX0_bestTrain_18 fwX0_43 (by decide) rfl (by decide) rfl rfl ((Fr_v hF (by decide)).trans (hTT.1.2.2.trans hn)) ?_
    refine a_icmp_ge (tgt := 118) dX0_bestTrain_21 (by decide) (fun c21_1 => ?_) (fun c21_1 => ?_)
    · refine a_iload (j := 1) dX0_bestTrain_118 rfl ?_
      exact a_iret dX0_bestTrain_120 rfl (by
        by_cases cg : s = T 0 0
        · obtain rfl : i = 0 := (by omega)
          exact post_v (kQ _ hF iq (fun hg => absurd cg hg)) (by unfold TKk; rw [if_pos cg]; rfl)
        · obtain rfl : i = n := (by omega)
          exact post_v (kQ _ hF iq (fun hg => by rw [show Int.toNat (T 0 2) = i by omega]; exact ib)) (by unfold TKk; rw [if_neg cg, show Int.toNat (T 0 2) = i by omega]))
    · refine a_iload_n (j := 4) dX0_bestTrain_24 rfl rfl ?_
      refine a_aload_n (j := 3) dX0_bestTrain_25 rfl rfl (Nat.le_of_ble_eq_true rfl) ?_
      refine b_get (a := 63) (z := T 0 0) (t := 0) dX0_bestTrain_26 fwX0_67 (by decide) rfl (by decide) rfl rfl ((Fr_v hF (by decide)).trans hTT.1.1) ?_
      refine a_icmp_eq (tgt := 118) dX0_bestTrain_29 (by decide) (fun c29_2 => ?_) (fun c29_2 => ?_)
      · refine a_iload (j := 1) dX0_bestTrain_118 rfl ?_
        exact a_iret dX0_bestTrain_120 rfl (by
        by_cases cg : s = T 0 0
        · obtain rfl : i = 0 := (by omega)
          exact post_v (kQ _ hF iq (fun hg => absurd cg hg)) (by unfold TKk; rw [if_pos cg]; rfl)
        · obtain rfl : i = n := (by omega)
          exact post_v (kQ _ hF iq (fun hg => by rw [show Int.toNat (T 0 2) = i by omega]; exact ib)) (by unfold TKk; rw [if_neg cg, show Int.toNat (T 0 2) = i by omega]))
      · refine a_aload_n (j := 3) dX0_bestTrain_32 rfl rfl (Nat.le_of_ble_eq_true rfl) ?_
        refine b_getp (a := 63) (p := 65) dX0_bestTrain_33 fwX0_57 (by decide) rfl (by decide) rfl rfl ?_
        refine a_iload (j := 0) dX0_bestTrain_36 rfl ?_
        refine b_iaload (a := 65) (z := T 2 i) i dX0_bestTrain_38 (by decide) rfl rfl (by omega) (sp_nil rfl _) ((Fr_v hF (by decide)).trans (hTT.2.2.1 i (by omega)).1) (fun r38_3 => ?_)
        refine a_iload_n (j := 4) dX0_bestTrain_39 rfl rfl ?_
        refine a_icmp_ne (tgt := 112) dX0_bestTrain_40 (by decide) (fun c40_4 => ?_) (fun c40_4 => ?_)
        · refine a_iinc (j := 0) (z' := ((i + 1 : Nat) : Int)) (lv' := [(5, vI ((i + 1 : Nat) : Int)), (4, vI (hsF (bsT κ T (WT κ T) s m i).1)), (0, vA 78), (1, vA 63), (2, vI s), (3, vI m)]) dX0_bestTrain_112 rfl (w_okN (by omega) (by omega) (by omega)) (by decide) rfl ?_
          refine a_goto (tgt := 15) dX0_bestTrain_115 (by decide) ?_
          have e0 : bsT κ T (WT κ T) s m (i + 1) = bsT κ T (WT κ T) s m i := by
            rw [bsT_s]
            first | (rw [if_neg (by omega)]; done) | (rw [if_pos ⟨by omega, by omega⟩, if_neg (by omega)])
          have e : hsF (bsT κ T (WT κ T) s m (i + 1)).1 = (hsF (bsT κ T (WT κ T) s m i).1) := (by rw [e0])
          have q := ih (i + 1) h1 (by omega) (by omega) (Fr_m (by decide) hF) (by rw [e0]; exact ib) iq (by omega)
          rw [e] at q
          exact a_lv (lv' := [(5, vI (((i + 1) : Nat) : Int)), (4, vI (hsF (bsT κ T (WT κ T) s m i).1)), (0, vA 78), (1, vA 63), (2, vI s), (3, vI m)]) (by intro q hq; simp only [List.mem_cons, List.not_mem_nil, or_false] at hq ⊢; rcases hq with rfl | rfl | rfl | rfl | rfl | rfl <;> simp) q
        · refine a_aload_n (j := 3) dX0_bestTrain_43 rfl rfl (Nat.le_of_ble_eq_true rfl) ?_
          refine a_iload (j := 0) dX0_bestTrain_44 rfl ?_
          refine b_callV (d' := d - 1) (mc' := 0) (ms' := 0) (mc1 := 0) (ms1 := 0) (st := []) (b := 63) [vI ((i : Nat) : Int)] dX0_bestTrain_46 mwX5_lastMinute lkX0_49 (by decide) rfl rc_X5 rfl (Nat.le_of_ble_eq_true rfl) (by omega) rfl rfl (c_X5_lastMinute (v1 := (T 6 i)) (v2 := (T 7 i)) (by omega)  ((Fr_v hF (by decide)).trans ((congrArg (h 69) (show (Int.toNat ((i : Nat) : Int)) = i by omega)).trans (hTT.2.2.1 i (by omega)).2.2.2.2.1)) ((Fr_v hF (by decide)).trans ((congrArg (h 70) (show (Int.toNat ((i : Nat) : Int)) = i by omega)).trans (hTT.2.2.1 i (by omega)).2.2.2.2.2.1)) (show 0 ≤ ((i : Nat) : Int) ∧ ((i : Nat) : Int) ≤ 11 by omega) (show 0 ≤ (T 6 i) ∧ (T 6 i) ≤ 1559 by omega) (show 0 ≤ (T 7 i) ∧ (T 7 i) ≤ 30 by omega) ?_)
          show Aj γ mX0_bestTrain d 0 0 Post 49 [(5, vI ((i : Nat) : Int)), (4, vI (hsF (bsT κ T (WT κ T) s m i).1)), (0, vA 78), (1, vA 63), (2, vI s), (3, vI m)] [vI ((T 6 i) + (T 7 i))] (mk h1 τ)
          refine a_iload_n (j := 5) dX0_bestTrain_49 rfl rfl ?_
          refine a_icmp_lt (tgt := 112) dX0_bestTrain_50 (by decide) (fun c50_5 => ?_) (fun c50_5 => ?_)
          · refine a_iinc (j := 0) (z' := ((i + 1 : Nat) : Int)) (lv' := [(5, vI ((i + 1 : Nat) : Int)), (4, vI (hsF (bsT κ T (WT κ T) s m i).1)), (0, vA 78), (1, vA 63), (2, vI s), (3, vI m)]) dX0_bestTrain_112 rfl (w_okN (by omega) (by omega) (by omega)) (by decide) rfl ?_
            refine a_goto (tgt := 15) dX0_bestTrain_115 (by decide) ?_
            have e0 : bsT κ T (WT κ T) s m (i + 1) = bsT κ T (WT κ T) s m i := by
              rw [bsT_s]
              first | (rw [if_neg (by omega)]; done) | (rw [if_pos ⟨by omega, by omega⟩, if_neg (by omega)])
            have e : hsF (bsT κ T (WT κ T) s m (i + 1)).1 = (hsF (bsT κ T (WT κ T) s m i).1) := (by rw [e0])
            have q := ih (i + 1) h1 (by omega) (by omega) (Fr_m (by decide) hF) (by rw [e0]; exact ib) iq (by omega)
            rw [e] at q
            exact a_lv (lv' := [(5, vI (((i + 1) : Nat) : Int)), (4, vI (hsF (bsT κ T (WT κ T) s m i).1)), (0, vA 78), (1, vA 63), (2, vI s), (3, vI m)]) (by intro q hq; simp only [List.mem_cons, List.not_mem_nil, or_false] at hq ⊢; rcases hq with rfl | rfl | rfl | rfl | rfl | rfl <;> simp) q
          · refine a_aload_n (j := 2) dX0_bestTrain_53 rfl rfl (Nat.le_of_ble_eq_true rfl) ?_
            refine b_get (a := 78) (z := κ) (t := 0) dX0_bestTrain_54 fwX0_19 (by decide) rfl (by decide) rfl rfl ((iq 0 (by decide)).trans hκ0) ?_
            refine a_iconst dX0_bestTrain_57 ⟨by decide, by decide⟩ ?_
            refine a_icmp_ne (tgt := 72) dX0_bestTrain_58 (by decide) (fun c58_6 => ?_) (fun c58_6 => absurd c58_6 (by omega))
            refine a_aload_n (j := 2) dX0_bestTrain_72 rfl rfl (Nat.le_of_ble_eq_true rfl) ?_
            refine a_aload_n (j := 3) dX0_bestTrain_73 rfl rfl (Nat.le_of_ble_eq_true rfl) ?_
            refine a_iload (j := 0) dX0_bestTrain_74 rfl ?_
            refine a_iload_n (j := 5) dX0_bestTrain_76 rfl rfl ?_
            refine b_callV (d' := d - 1) (mc' := 0) (ms' := 0) (mc1 := 0) (ms1 := 0) (st := []) (b := 78) [vA 63, vI ((i : Nat) : Int), vI m] dX0_bestTrain_77 mwX0_meanBehind lkX0_86 (by decide) rfl rc_X0 rfl (Nat.le_of_ble_eq_true rfl) (by omega) rfl rfl (c_X0_meanBehind_78 (κ := κ) (T := T) (t := i) (m := m) (P := P) (by omega) ((iq 0 (by decide)).trans hκ0) hκ hT (TT_fr (by decide) hF hTT) (by omega) (by omega) (CHp_fr (hF 79 (by decide)) hC) (hP (by omega)) ?_)
            show Aj γ mX0_bestTrain d 0 0 Post 80 [(5, vI ((i : Nat) : Int)), (4, vI (hsF (bsT κ T (WT κ T) s m i).1)), (0, vA 78), (1, vA 63), (2, vI s), (3, vI m)] [vI (bhT κ T (WT κ T) i m)] (mk h1 τ)
            refine a_istore (lv' := [(6, vI (bhT κ T (WT κ T) i m)), (5, vI ((i : Nat) : Int)), (4, vI (hsF (bsT κ T (WT κ T) s m i).1)), (0, vA 78), (1, vA 63), (2, vI s), (3, vI m)]) dX0_bestTrain_80 (by decide) rfl ?_
            refine a_iload (j := 2) dX0_bestTrain_82 rfl ?_
            refine a_ldc (z := (-1000000005)) dX0_bestTrain_84 kwX0_82 ⟨by decide, by decide, by decide⟩ ?_
            refine a_icmp_eq (tgt := 102) dX0_bestTrain_86 (by decide) (fun c86_7 => ?_) (fun c86_7 => ?_)
            · refine a_iload (j := 1) dX0_bestTrain_102 rfl ?_
              refine a_istore (lv' := [(4, vI ((i : Nat) : Int)), (6, vI (bhT κ T (WT κ T) i m)), (5, vI ((i : Nat) : Int)), (0, vA 78), (1, vA 63), (2, vI s), (3, vI m)]) dX0_bestTrain_104 (by decide) rfl ?_
              refine a_aload_n (j := 3) dX0_bestTrain_106 rfl rfl (Nat.le_of_ble_eq_true rfl) ?_
              refine a_iload (j := 1) dX0_bestTrain_107 rfl ?_
              refine b_put (a := 78) (v := vI (bhT κ T (WT κ T) i m)) dX0_bestTrain_109 pwX0_64 (fun h => nomatch h) (by decide) rfl (by decide) rfl rfl (fit_int _) ?_
              show Aj γ mX0_bestTrain d 0 0 Post 112 [(4, vI ((i : Nat) : Int)), (6, vI (bhT κ T (WT κ T) i m)), (5, vI ((i : Nat) : Int)), (0, vA 78), (1, vA 63), (2, vI s), (3, vI m)] [] (mk (up2 h1 78 3 (bhT κ T (WT κ T) i m)) τ)
              refine a_iinc (j := 2) (z' := ((i + 1 : Nat) : Int)) (lv' := [(5, vI ((i + 1 : Nat) : Int)), (4, vI ((i : Nat) : Int)), (6, vI (bhT κ T (WT κ T) i m)), (0, vA 78), (1, vA 63), (2, vI s), (3, vI m)]) dX0_bestTrain_112 rfl (w_okN (by omega) (by omega) (by omega)) (by decide) rfl ?_
              refine a_goto (tgt := 15) dX0_bestTrain_115 (by decide) ?_
              have e0 : bsT κ T (WT κ T) s m (i + 1) = ((i : Int), bhT κ T (WT κ T) i m) := by
                rw [bsT_s, if_pos ⟨by omega, by omega⟩, if_pos (by omega)]
              have e : hsF (bsT κ T (WT κ T) s m (i + 1)).1 = ((i : Nat) : Int) := (by rw [e0]; unfold hsF; rw [if_neg (by omega)])
              have q := ih (i + 1) (up2 h1 78 3 (bhT κ T (WT κ T) i m)) (by omega) (by omega) (Fr_u (by decide) (Fr_m (by decide) hF)) (by rw [e0]; exact up2_at) (fun k hk => (up2_ne (by omega)).trans (iq k hk)) (by omega)
              rw [e] at q
              exact a_lv (lv' := [(5, vI (((i + 1) : Nat) : Int)), (4, vI ((i : Nat) : Int)), (0, vA 78), (1, vA 63), (2, vI s), (3, vI m)]) (by intro q hq; simp only [List.mem_cons, List.not_mem_nil, or_false] at hq ⊢; rcases hq with rfl | rfl | rfl | rfl | rfl | rfl <;> simp) q
            · refine a_aload_n (j := 3) dX0_bestTrain_89 rfl rfl (Nat.le_of_ble_eq_true rfl) ?_
              refine a_iload (j := 0) dX0_bestTrain_90 rfl ?_
              refine a_aload_n (j := 3) dX0_bestTrain_92 rfl rfl (Nat.le_of_ble_eq_true rfl) ?_
              refine b_get (a := 78) (z := (bsT κ T (WT κ T) s m i).2) (t := 0) dX0_bestTrain_93 fwX0_64 (by decide) rfl (by decide) rfl rfl ib ?_
              refine b_callV (d' := d - 1) (mc' := 0) (ms' := 0) (mc1 := 0) (ms1 := 0) (st := []) (b := 78) [vI (bhT κ T (WT κ T) i m), vI ((bsT κ T (WT κ T) s m i).2)] dX0_bestTrain_96 mwX0_isBetter lkX0_89 (by decide) rfl rc_X0 rfl (Nat.le_of_ble_eq_true rfl) (by omega) rfl rfl (c_X0_isBetter (v1 := κ) (by omega) (Or.inl rfl) ((iq 0 (by decide)).trans hκ0)  (fun t96_8 => ?_) (fun t96_8 => ?_))
              · have t96_8 : (κ = 1 ∧ ((bsT κ T (WT κ T) s m i).2) < (bhT κ T (WT κ T) i m)) ∨ (¬ κ = 1 ∧ (bhT κ T (WT κ T) i m) < ((bsT κ T (WT κ T) s m i).2)) := t96_8
                show Aj γ mX0_bestTrain d 0 0 Post 99 [(6, vI (bhT κ T (WT κ T) i m)), (5, vI ((i : Nat) : Int)), (4, vI (hsF (bsT κ T (WT κ T) s m i).1)), (0, vA 78), (1, vA 63), (2, vI s), (3, vI m)] [vI 1] (mk h1 τ)
                refine a_if_eq (tgt := 112) dX0_bestTrain_99 (by decide) (fun c => absurd c (by decide)) (fun _ => ?_)
                refine a_iload (j := 1) dX0_bestTrain_102 rfl ?_
                refine a_istore (lv' := [(4, vI ((i : Nat) : Int)), (6, vI (bhT κ T (WT κ T) i m)), (5, vI ((i : Nat) : Int)), (0, vA 78), (1, vA 63), (2, vI s), (3, vI m)]) dX0_bestTrain_104 (by decide) rfl ?_
                refine a_aload_n (j := 3) dX0_bestTrain_106 rfl rfl (Nat.le_of_ble_eq_true rfl) ?_
                refine a_iload (j := 1) dX0_bestTrain_107 rfl ?_
                refine b_put (a := 78) (v := vI (bhT κ T (WT κ T) i m)) dX0_bestTrain_109 pwX0_64 (fun h => nomatch h) (by decide) rfl (by decide) rfl rfl (fit_int _) ?_
                show Aj γ mX0_bestTrain d 0 0 Post 112 [(4, vI ((i : Nat) : Int)), (6, vI (bhT κ T (WT κ T) i m)), (5, vI ((i : Nat) : Int)), (0, vA 78), (1, vA 63), (2, vI s), (3, vI m)] [] (mk (up2 h1 78 3 (bhT κ T (WT κ T) i m)) τ)
                refine a_iinc (j := 2) (z' := ((i + 1 : Nat) : Int)) (lv' := [(5, vI ((i + 1 : Nat) : Int)), (4, vI ((i : Nat) : Int)), (6, vI (bhT κ T (WT κ T) i m)), (0, vA 78), (1, vA 63), (2, vI s), (3, vI m)]) dX0_bestTrain_112 rfl (w_okN (by omega) (by omega) (by omega)) (by decide) rfl ?_
                refine a_goto (tgt := 15) dX0_bestTrain_115 (by decide) ?_
                have e0 : bsT κ T (WT κ T) s m (i + 1) = ((i : Int), bhT κ T (WT κ T) i m) := by
                  rw [bsT_s, if_pos ⟨by omega, by omega⟩, if_pos (by omega)]
                have e : hsF (bsT κ T (WT κ T) s m (i + 1)).1 = ((i : Nat) : Int) := (by rw [e0]; unfold hsF; rw [if_neg (by omega)])
                have q := ih (i + 1) (up2 h1 78 3 (bhT κ T (WT κ T) i m)) (by omega) (by omega) (Fr_u (by decide) (Fr_m (by decide) hF)) (by rw [e0]; exact up2_at) (fun k hk => (up2_ne (by omega)).trans (iq k hk)) (by omega)
                rw [e] at q
                exact a_lv (lv' := [(5, vI (((i + 1) : Nat) : Int)), (4, vI ((i : Nat) : Int)), (0, vA 78), (1, vA 63), (2, vI s), (3, vI m)]) (by intro q hq; simp only [List.mem_cons, List.not_mem_nil, or_false] at hq ⊢; rcases hq with rfl | rfl | rfl | rfl | rfl | rfl <;> simp) q
              · have t96_8 : ¬ ((κ = 1 ∧ ((bsT κ T (WT κ T) s m i).2) < (bhT κ T (WT κ T) i m)) ∨ (¬ κ = 1 ∧ (bhT κ T (WT κ T) i m) < ((bsT κ T (WT κ T) s m i).2))) := t96_8
                show Aj γ mX0_bestTrain d 0 0 Post 99 [(6, vI (bhT κ T (WT κ T) i m)), (5, vI ((i : Nat) : Int)), (4, vI (hsF (bsT κ T (WT κ T) s m i).1)), (0, vA 78), (1, vA 63), (2, vI s), (3, vI m)] [vI 0] (mk h1 τ)
                refine a_if_eq (tgt := 112) dX0_bestTrain_99 (by decide) (fun _ => ?_) (fun c => absurd c (by decide))
                refine a_iinc (j := 1) (z' := ((i + 1 : Nat) : Int)) (lv' := [(5, vI ((i + 1 : Nat) : Int)), (6, vI (bhT κ T (WT κ T) i m)), (4, vI (hsF (bsT κ T (WT κ T) s m i).1)), (0, vA 78), (1, vA 63), (2, vI s), (3, vI m)]) dX0_bestTrain_112 rfl (w_okN (by omega) (by omega) (by omega)) (by decide) rfl ?_
                refine a_goto (tgt := 15) dX0_bestTrain_115 (by decide) ?_
                have e0 : bsT κ T (WT κ T) s m (i + 1) = bsT κ T (WT κ T) s m i := by
                  rw [bsT_s]
                  first | (rw [if_neg (by omega)]; done) | (rw [if_pos ⟨by omega, by omega⟩, if_neg (by omega)])
                have e : hsF (bsT κ T (WT κ T) s m (i + 1)).1 = (hsF (bsT κ T (WT κ T) s m i).1) := (by rw [e0])
                have q := ih (i + 1) h1 (by omega) (by omega) (Fr_m (by decide) hF) (by rw [e0]; exact ib) iq (by omega)
                rw [e] at q
                exact a_lv (lv' := [(5, vI (((i + 1) : Nat) : Int)), (4, vI (hsF (bsT κ T (WT κ T) s m i).1)), (0, vA 78), (1, vA 63), (2, vI s), (3, vI m)]) (by intro q hq; simp only [List.mem_cons, List.not_mem_nil, or_false] at hq ⊢; rcases hq with rfl | rfl | rfl | rfl | rfl | rfl <;> simp) q
theorem c_X0_bestTrain_78 {γ : GT} {d : Nat} {κ : Int} {T : Nat → Nat → Int} {s m P : Int} {h : Nat → Nat → Int} {τ : List AC} {Post : Option AV → List AC → Prop} (hd : 3 ≤ d) (hκ0 : h 78 0 = κ) (hκ : κ = 0) (hT : tOK T) (hTT : TT h T) (hs : 0 ≤ s ∧ s ≤ 5) (hm : 0 ≤ m ∧ m ≤ 5000) (hC : CHp h 78 κ T P) (hP : m ≤ 1589 → plT T (m + 1) ≤ P) (kQ : ∀ h', Fr [78] h h' → (∀ k, k ≠ 3 → h' 78 k = h 78 k) → (¬ s = T 0 0 → h' 78 3 = (bsT κ T (WT κ T) s m (Int.toNat (T 0 2))).2) → Post (some (vI (hsF (TKk κ T s m)))) (mk h' τ)) : Cj γ mX0_bestTrain d 0 0 [vA 78, vA 63, vI s, vI m] (mk h τ) Post := by
  have h2_ := hT.2.2.1
  obtain ⟨n, hn⟩ : ∃ n : Nat, T 0 2 = (n : Int) := ⟨Int.toNat (T 0 2), by omega⟩
  refine c_of (by decide) (Nat.le_of_ble_eq_true rfl) ?_
  show Aj γ mX0_bestTrain d 0 0 Post 0 [(0, vA 78), (1, vA 63), (2, vI s), (3, vI m)] [] (mk h τ)
  refine a_ldc (z := (-1000000005)) dX0_bestTrain_0 kwX0_82 ⟨by decide, by decide, by decide⟩ ?_
  refine a_istore (lv' := [(4, vI (-1000000005)), (0, vA 78), (1, vA 63), (2, vI s), (3, vI m)]) dX0_bestTrain_2 (by decide) rfl ?_
  refine a_aload_n (j := 1) dX0_bestTrain_4 rfl rfl (Nat.le_of_ble_eq_true rfl) ?_
  refine a_aload_n (j := 1) dX0_bestTrain_5 rfl rfl (Nat.le_of_ble_eq_true rfl) ?_
  refine b_callV (d' := d - 1) (mc' := 0) (ms' := 0) (mc1 := 0) (ms1 := 0) (st := [vA 78]) (b := 78) [] dX0_bestTrain_6 mwX0_worthOfNone lkX0_33 (by decide) rfl rc_X0 rfl (Nat.le_of_ble_eq_true rfl) (by omega) rfl rfl (c_X0_worthOfNone (v1 := κ) (by omega) (Or.inl rfl) hκ0  ?_)
  show Aj γ mX0_bestTrain d 0 0 Post 9 [(4, vI (-1000000005)), (0, vA 78), (1, vA 63), (2, vI s), (3, vI m)] [vI (wonF κ), vA 78] (mk h τ)
  refine b_put (a := 78) (v := vI (wonF κ)) dX0_bestTrain_9 pwX0_64 (fun h => nomatch h) (by decide) rfl (by decide) rfl rfl (fit_int _) ?_
  show Aj γ mX0_bestTrain d 0 0 Post 12 [(4, vI (-1000000005)), (0, vA 78), (1, vA 63), (2, vI s), (3, vI m)] [] (mk (up2 h 78 3 (wonF κ)) τ)
  refine a_iconst dX0_bestTrain_12 ⟨by decide, by decide⟩ ?_
  refine a_istore (lv' := [(5, vI 0), (4, vI (-1000000005)), (0, vA 78), (1, vA 63), (2, vI s), (3, vI m)]) dX0_bestTrain_13 (by decide) rfl ?_
  have q := l_bt_78 (γ := γ) (d := d) (τ := τ) (Post := Post) (h := h) (P := P) (n := n) hd hκ0 hκ hT hTT hs hm hC hP hn kQ (n + 1) 0 (up2 h 78 3 (wonF κ)) (by omega) (by omega) (Fr_u (by decide) Fr_r) up2_at (fun k hk => up2_ne (by omega)) (by omega)
  exact a_lv (lv' := [(5, vI ((0 : Nat) : Int)), (4, vI (-1000000005)), (0, vA 78), (1, vA 63), (2, vI s), (3, vI m)]) (by intro q hq; simp only [List.mem_cons, List.not_mem_nil, or_false] at hq ⊢; rcases hq with rfl | rfl | rfl | rfl | rfl | rfl <;> simp) q
set_option maxHeartbeats 4000000 in
theorem c_X0_worthAt_80 {γ : GT} {d : Nat} {κ : Int} {T : Nat → Nat → Int} {s m : Int} {h : Nat → Nat → Int} {τ : List AC} {Post : Option AV → List AC → Prop} (hd : 1 ≤ d) (hκ0 : h 80 0 = κ) (hκ : κ = 1) (hT : tOK T) (hTT : TT h T) (hs : 0 ≤ s ∧ s ≤ 5) (hm : 0 ≤ m ∧ m ≤ 5000) (hC : ¬ s = T 0 0 → m ≤ 1589 → h 81 (Int.toNat (s * 373 + plT T m)) = WT κ T s m) (kQ : Post (some (vI (WT κ T s m))) (mk h τ)) : Cj γ mX0_worthAt d 0 0 [vA 80, vA 63, vI s, vI m] (mk h τ) Post := by
  refine c_of (by decide) (Nat.le_of_ble_eq_true rfl) ?_
  show Aj γ mX0_worthAt d 0 0 Post 0 [(0, vA 80), (1, vA 63), (2, vI s), (3, vI m)] [] (mk h τ)
  refine a_iload_n (j := 2) dX0_worthAt_0 rfl rfl ?_
  refine a_aload_n (j := 1) dX0_worthAt_1 rfl rfl (Nat.le_of_ble_eq_true rfl) ?_
  refine b_get (a := 63) (z := T 0 0) (t := 0) dX0_worthAt_2 fwX0_67 (by decide) rfl (by decide) rfl rfl hTT.1.1 ?_
  refine a_icmp_ne (tgt := 18) dX0_worthAt_5 (by decide) (fun c5_1 => ?_) (fun c5_1 => ?_)
  · refine a_iload_n (j := 3) dX0_worthAt_18 rfl rfl ?_
    refine a_iconst dX0_worthAt_19 ⟨by decide, by decide⟩ ?_
    refine a_sipush dX0_worthAt_20 ⟨by decide, by decide, by decide⟩ ?_
    refine a_callS (d' := d - 1) (mc' := 0) (ms' := 0) (mc1 := 0) (ms1 := 0) (st := []) [vI m, vI 0, vI 1589] dX0_worthAt_23 mwX8_within lkX0_53 rfl (Nat.le_of_ble_eq_true rfl) (by omega) rfl rfl (c_X8_within  (by omega)    (fun t23_2 => ?_) (fun t23_2 => ?_))
    · have t23_2 : 0 ≤ m ∧ m ≤ 1589 := t23_2
      show Aj γ mX0_worthAt d 0 0 Post 26 [(0, vA 80), (1, vA 63), (2, vI s), (3, vI m)] [vI 1] (mk h τ)
      refine a_if_ne (tgt := 34) dX0_worthAt_26 (by decide) (fun _ => ?_) (fun c => absurd c (by decide))
      refine a_aload_n (j := 0) dX0_worthAt_34 rfl rfl (Nat.le_of_ble_eq_true rfl) ?_
      refine b_getp (a := 80) (p := 81) dX0_worthAt_35 fwX0_11 (by decide) rfl (by decide) rfl rfl ?_
      refine a_iload_n (j := 2) dX0_worthAt_38 rfl rfl ?_
      refine a_sipush dX0_worthAt_39 ⟨by decide, by decide, by decide⟩ ?_
      refine a_imul (z := (s * 373)) dX0_worthAt_42 (w_ok (by omega) (by omega)) ?_
      refine a_aload_n (j := 1) dX0_worthAt_43 rfl rfl (Nat.le_of_ble_eq_true rfl) ?_
      refine b_getp (a := 63) (p := 74) dX0_worthAt_44 fwX0_77 (by decide) rfl (by decide) rfl rfl ?_
      refine a_iload_n (j := 3) dX0_worthAt_47 rfl rfl ?_
      refine b_iaload (a := 74) (z := plT T m) (Int.toNat m) dX0_worthAt_48 (by decide) rfl (by omega) (by omega) (sp_nil rfl _) (TT_pl hTT (by omega) (by omega)) (fun r48_3 => ?_)
      have hpl := plT_rng hT m
      refine a_iadd (z := ((s * 373) + (plT T m))) dX0_worthAt_49 (w_ok (by omega) (by omega)) ?_
      refine b_iaload (a := 81) (z := WT κ T s m) (Int.toNat (s * 373 + plT T m)) dX0_worthAt_50 (by decide) rfl (by omega) (by omega) (sp_nil rfl _) (hC (by omega) (by omega)) (fun r50_4 => ?_)
      exact a_iret dX0_worthAt_51 rfl kQ
    · have t23_2 : ¬ (0 ≤ m ∧ m ≤ 1589) := t23_2
      show Aj γ mX0_worthAt d 0 0 Post 26 [(0, vA 80), (1, vA 63), (2, vI s), (3, vI m)] [vI 0] (mk h τ)
      refine a_if_ne (tgt := 34) dX0_worthAt_26 (by decide) (fun c => absurd c (by decide)) (fun _ => ?_)
      refine a_aload_n (j := 0) dX0_worthAt_29 rfl rfl (Nat.le_of_ble_eq_true rfl) ?_
      refine b_callV (d' := d - 1) (mc' := 0) (ms' := 0) (mc1 := 0) (ms1 := 0) (st := []) (b := 80) [] dX0_worthAt_30 mwX0_worthOfNone lkX0_33 (by decide) rfl rc_X0 rfl (Nat.le_of_ble_eq_true rfl) (by omega) rfl rfl (c_X0_worthOfNone (v1 := κ) (by omega) (Or.inr (Or.inl rfl)) hκ0  ?_)
      show Aj γ mX0_worthAt d 0 0 Post 33 [(0, vA 80), (1, vA 63), (2, vI s), (3, vI m)] [vI (wonF κ)] (mk h τ)
      exact a_iret dX0_worthAt_33 rfl (post_v kQ (by rw [WT_late hT (by omega) (by omega)]))
  · refine a_aload_n (j := 0) dX0_worthAt_8 rfl rfl (Nat.le_of_ble_eq_true rfl) ?_
    refine a_iload_n (j := 3) dX0_worthAt_9 rfl rfl ?_
    refine a_aload_n (j := 1) dX0_worthAt_10 rfl rfl (Nat.le_of_ble_eq_true rfl) ?_
    refine b_get (a := 63) (z := T 0 1) (t := 0) dX0_worthAt_11 fwX0_70 (by decide) rfl (by decide) rfl rfl hTT.1.2.1 ?_
    refine b_callV (d' := d - 1) (mc' := 0) (ms' := 0) (mc1 := 0) (ms1 := 0) (st := []) (b := 80) [vI m, vI (T 0 1)] dX0_worthAt_14 mwX0_worthAtGoal lkX0_73 (by decide) rfl rc_X0 rfl (Nat.le_of_ble_eq_true rfl) (by omega) rfl rfl (c_X0_worthAtGoal (v1 := κ) (by omega) (Or.inr (Or.inl rfl)) hκ0 (show 0 ≤ m ∧ m ≤ 10000 by omega) ?_)
    show Aj γ mX0_worthAt d 0 0 Post 17 [(0, vA 80), (1, vA 63), (2, vI s), (3, vI m)] [vI (wogF κ m (T 0 1))] (mk h τ)
    exact a_iret dX0_worthAt_17 rfl (post_v kQ (by rw [WT_eq hT (by omega), if_pos (by omega)]))
set_option maxHeartbeats 8000000 in
theorem l_mb_80 {γ : GT} {d : Nat} {κ : Int} {T : Nat → Nat → Int} {t : Nat} {m P : Int} {h : Nat → Nat → Int} {τ : List AC} {Post : Option AV → List AC → Prop} (hd : 2 ≤ d) (hκ0 : h 80 0 = κ) (hκ : κ = 1) (hT : tOK T) (hTT : TT h T) (ht : (t : Int) < T 0 2) (hm : 0 ≤ m ∧ m ≤ 1589) (hC : CHp h 80 κ T P) (hP : plT T (m + 1) ≤ P) (kQ : Post (some (vI (bhT κ T (WT κ T) t m))) (mk h τ)) :
    ∀ (f i : Nat), i ≤ 4 → 4 < i + f → Aj γ mX0_meanBehind d 0 0 Post 6 [(5, vI ((i : Nat) : Int)), (4, vI (mnT T (WT κ T) t m i)), (0, vA 80), (1, vA 63), (2, vI ((t : Nat) : Int)), (3, vI m)] [] (mk h τ) := by
  intro f
  induction f with
  | zero => intro i h1 h2; omega
  | succ f ih =>
    intro i h1 h2
    have h2_ := hT.2.2.1
    have hb := hT.2.2.2.2.2 t
    have hb2 := hb.2.1
    have hb3 := hb.2.2.1
    have hb5 := hb.2.2.2.1
    have hb6 := hb.2.2.2.2.1
    have hb7 := hb.2.2.2.2.2.1
    have hb8 := (hb.2.2.2.2.2.2.2 (by omega)).2.1
    have hw1 := hT.2.2.2.2.1 (Int.toNat (T 3 t))
    have hmn := mn_rng hT (g := WT κ T) (t := t) (m := m) (b := 500000) ht (by omega) (fun s hs => by have ha := arT_rng hT (t := t) (s := s) (m := m) hs; exact WT_rng (by omega) hT (by omega) (by omega))
    refine a_iload (j := 0) dX0_meanBehind_6 rfl ?_
    refine a_iconst dX0_meanBehind_8 ⟨by decide, by decide⟩ ?_
    refine a_icmp_ge (tgt := 63) dX0_meanBehind_9 (by decide) (fun c9_1 => ?_) (fun c9_1 => ?_)
    · obtain rfl : i = 4 := (by omega)
      have q1 := hmn 4 (by omega)
      refine a_iload (j := 1) dX0_meanBehind_63 rfl ?_
      refine a_bipush dX0_meanBehind_65 ⟨by decide, by decide, by decide⟩ ?_
      refine a_idiv (z := ((mnT T (WT κ T) t m 4) / 100)) dX0_meanBehind_67 (by omega) (w_divN (by omega) (by omega) (by omega)) ?_
      exact a_iret dX0_meanBehind_68 rfl (post_v kQ (by unfold bhT; rw [if_neg (by omega)]))
    · have hs9 := hb.2.2.2.2.2.2.1 i (by omega)
      have har := arT_rng hT (t := t) (s := i) (m := m) (by omega)
      have q1 := hmn i (by omega)
      have q2 := hmn (i + 1) (by omega)
      rw [mn_s] at q2
      refine a_aload_n (j := 3) dX0_meanBehind_12 rfl rfl (Nat.le_of_ble_eq_true rfl) ?_
      refine b_getp (a := 63) (p := 71) dX0_meanBehind_13 fwX0_93 (by decide) rfl (by decide) rfl rfl ?_
      refine a_iload_n (j := 4) dX0_meanBehind_16 rfl rfl ?_
      refine a_iconst dX0_meanBehind_17 ⟨by decide, by decide⟩ ?_
      refine a_imul (z := (((t : Nat) : Int) * 4)) dX0_meanBehind_18 (w_ok (by omega) (by omega)) ?_
      refine a_iload (j := 0) dX0_meanBehind_19 rfl ?_
      refine a_iadd (z := ((((t : Nat) : Int) * 4) + ((i : Nat) : Int))) dX0_meanBehind_21 (w_ok (by omega) (by omega)) ?_
      refine b_iaload (a := 71) (z := T 8 (4 * t + i)) (4 * t + i) dX0_meanBehind_22 (by decide) rfl (by omega) (by omega) (sp_nil rfl _) ((hTT.2.2.1 t (by omega)).2.2.2.2.2.2 i (by omega)).1 (fun r22_2 => ?_)
      refine a_istore (lv' := [(6, vI (T 8 (4 * t + i))), (5, vI ((i : Nat) : Int)), (4, vI (mnT T (WT κ T) t m i)), (0, vA 80), (1, vA 63), (2, vI ((t : Nat) : Int)), (3, vI m)]) dX0_meanBehind_23 (by decide) rfl ?_
      refine a_iload (j := 0) dX0_meanBehind_25 rfl ?_
      refine a_if_eq (tgt := 57) dX0_meanBehind_27 (by decide) (fun c27_3 => ?_) (fun c27_3 => ?_)
      · refine a_iinc (j := 1) (z' := ((i + 1 : Nat) : Int)) (lv' := [(5, vI ((i + 1 : Nat) : Int)), (6, vI (T 8 (4 * t + i))), (4, vI (mnT T (WT κ T) t m i)), (0, vA 80), (1, vA 63), (2, vI ((t : Nat) : Int)), (3, vI m)]) dX0_meanBehind_57 rfl (w_okN (by omega) (by omega) (by omega)) (by decide) rfl ?_
        refine a_goto (tgt := 6) dX0_meanBehind_60 (by decide) ?_
        have e : mnT T (WT κ T) t m (i + 1) = (mnT T (WT κ T) t m i) := mn_z (by omega)
        have q := ih (i + 1) (by omega) (by omega)
        rw [e] at q
        exact a_lv (lv' := [(5, vI (((i + 1) : Nat) : Int)), (4, vI (mnT T (WT κ T) t m i)), (0, vA 80), (1, vA 63), (2, vI ((t : Nat) : Int)), (3, vI m)]) (by intro q hq; simp only [List.mem_cons, List.not_mem_nil, or_false] at hq ⊢; rcases hq with rfl | rfl | rfl | rfl | rfl | rfl <;> simp) q
      · refine a_iload (j := 2) dX0_meanBehind_30 rfl ?_
        refine a_iload (j := 0) dX0_meanBehind_32 rfl ?_
        refine a_aload_n (j := 3) dX0_meanBehind_34 rfl rfl (Nat.le_of_ble_eq_true rfl) ?_
        refine a_aload_n (j := 4) dX0_meanBehind_35 rfl rfl (Nat.le_of_ble_eq_true rfl) ?_
        refine a_aload_n (j := 4) dX0_meanBehind_36 rfl rfl (Nat.le_of_ble_eq_true rfl) ?_
        refine b_getp (a := 63) (p := 66) dX0_meanBehind_37 fwX0_96 (by decide) rfl (by decide) rfl rfl ?_
        refine a_iload_n (j := 5) dX0_meanBehind_40 rfl rfl ?_
        refine b_iaload (a := 66) (z := T 3 t) t dX0_meanBehind_41 (by decide) rfl rfl (by omega) (sp_nil rfl _) (hTT.2.2.1 t (by omega)).2.1 (fun r41_4 => ?_)
        refine a_aload_n (j := 4) dX0_meanBehind_42 rfl rfl (Nat.le_of_ble_eq_true rfl) ?_
        refine a_iload_n (j := 5) dX0_meanBehind_43 rfl rfl ?_
        refine a_iload (j := 1) dX0_meanBehind_44 rfl ?_
        refine a_iload_n (j := 6) dX0_meanBehind_46 rfl rfl ?_
        refine b_callV (d' := d - 1) (mc' := 0) (ms' := 0) (mc1 := 0) (ms1 := 0) (st := [vI (T 3 t), vA 63, vA 80, vI (T 8 (4 * t + i)), vI (mnT T (WT κ T) t m i)]) (b := 63) [vI ((t : Nat) : Int), vI ((i : Nat) : Int), vI m] dX0_meanBehind_47 mwX5_arrival lkX0_99 (by decide) rfl rc_X5 rfl (Nat.le_of_ble_eq_true rfl) (by omega) rfl rfl (c_X5_arrival (v1 := (T 9 (4 * t + i))) (v2 := (T 4 t)) (v3 := (T 3 t)) (v4 := (T 1 (Int.toNat (T 3 t)))) (v5 := (T 0 0)) (by omega)  ((congrArg (h 72) (show (Int.toNat ((((t : Nat) : Int) * 4) + ((i : Nat) : Int))) = (4 * t + i) by omega)).trans ((hTT.2.2.1 t (by omega)).2.2.2.2.2.2 i (by omega)).2) ((congrArg (h 67) (show (Int.toNat ((t : Nat) : Int)) = t by omega)).trans (hTT.2.2.1 t (by omega)).2.2.1) ((congrArg (h 66) (show (Int.toNat ((t : Nat) : Int)) = t by omega)).trans (hTT.2.2.1 t (by omega)).2.1) (hTT.2.1 _ (by omega)) hTT.1.1 (show 0 ≤ ((t : Nat) : Int) ∧ ((t : Nat) : Int) ≤ 11 by omega) (show 0 ≤ ((i : Nat) : Int) ∧ ((i : Nat) : Int) ≤ 3 by omega) (show 0 ≤ (T 9 (4 * t + i)) ∧ (T 9 (4 * t + i)) ≤ 3000 by omega) (show 1 ≤ (T 4 t) ∧ (T 4 t) ≤ 600 by omega) (show 0 ≤ (T 3 t) ∧ (T 3 t) ≤ 5 by omega) (show 0 ≤ (T 1 (Int.toNat (T 3 t))) ∧ (T 1 (Int.toNat (T 3 t))) ≤ 99 by omega) (show 0 ≤ m ∧ m ≤ 5000 by omega) ?_)
        show Aj γ mX0_meanBehind d 0 0 Post 50 [(6, vI (T 8 (4 * t + i))), (5, vI ((i : Nat) : Int)), (4, vI (mnT T (WT κ T) t m i)), (0, vA 80), (1, vA 63), (2, vI ((t : Nat) : Int)), (3, vI m)] [vI (arrF (T 9 (4 * t + i)) m (T 4 t) (T 3 t) (T 0 0) (T 1 (Int.toNat (T 3 t)))), vI (T 3 t), vA 63, vA 80, vI (T 8 (4 * t + i)), vI (mnT T (WT κ T) t m i)] (mk h τ)
        show Aj γ mX0_meanBehind d 0 0 Post 50 [(6, vI (T 8 (4 * t + i))), (5, vI ((i : Nat) : Int)), (4, vI (mnT T (WT κ T) t m i)), (0, vA 80), (1, vA 63), (2, vI ((t : Nat) : Int)), (3, vI m)] [vI (arT T t i m), vI (T 3 t), vA 63, vA 80, vI (T 8 (4 * t + i)), vI (mnT T (WT κ T) t m i)] (mk h τ)
        refine b_callV (d' := d - 1) (mc' := 0) (ms' := 0) (mc1 := 0) (ms1 := 0) (st := [vI (T 8 (4 * t + i)), vI (mnT T (WT κ T) t m i)]) (b := 80) [vA 63, vI (T 3 t), vI (arT T t i m)] dX0_meanBehind_50 mwX0_worthAt lkX0_103 (by decide) rfl rc_X0 rfl (Nat.le_of_ble_eq_true rfl) (by omega) rfl rfl (c_X0_worthAt_80 (κ := κ) (T := T) (s := T 3 t) (m := (arT T t i m)) (by omega) hκ0 hκ hT hTT (by omega) (by omega) (fun h1 h2 => hC _ _ (by omega) (by omega) h1 (by omega) (by omega) (Int.le_trans (plT_mono (by omega)) hP)) ?_)
        show Aj γ mX0_meanBehind d 0 0 Post 53 [(6, vI (T 8 (4 * t + i))), (5, vI ((i : Nat) : Int)), (4, vI (mnT T (WT κ T) t m i)), (0, vA 80), (1, vA 63), (2, vI ((t : Nat) : Int)), (3, vI m)] [vI (WT κ T (T 3 t) (arT T t i m)), vI (T 8 (4 * t + i)), vI (mnT T (WT κ T) t m i)] (mk h τ)
        have hwr := WT_rng (κ := κ) (by omega) hT (stop := T 3 t) (m := arT T t i m) (by omega) (by omega)
        refine a_imul (z := ((T 8 (4 * t + i)) * (WT κ T (T 3 t) (arT T t i m)))) dX0_meanBehind_53 (w_ok (by omega) (by omega)) ?_
        refine a_iadd (z := ((mnT T (WT κ T) t m i) + ((T 8 (4 * t + i)) * (WT κ T (T 3 t) (arT T t i m))))) dX0_meanBehind_54 (w_ok (by omega) (by omega)) ?_
        refine a_istore (lv' := [(4, vI ((mnT T (WT κ T) t m i) + ((T 8 (4 * t + i)) * (WT κ T (T 3 t) (arT T t i m))))), (6, vI (T 8 (4 * t + i))), (5, vI ((i : Nat) : Int)), (0, vA 80), (1, vA 63), (2, vI ((t : Nat) : Int)), (3, vI m)]) dX0_meanBehind_55 (by decide) rfl ?_
        refine a_iinc (j := 2) (z' := ((i + 1 : Nat) : Int)) (lv' := [(5, vI ((i + 1 : Nat) : Int)), (4, vI ((mnT T (WT κ T) t m i) + ((T 8 (4 * t + i)) * (WT κ T (T 3 t) (arT T t i m))))), (6, vI (T 8 (4 * t + i))), (0, vA 80), (1, vA 63), (2, vI ((t : Nat) : Int)), (3, vI m)]) dX0_meanBehind_57 rfl (w_okN (by omega) (by omega) (by omega)) (by decide) rfl ?_
        refine a_goto (tgt := 6) dX0_meanBehind_60 (by decide) ?_
        have e : mnT T (WT κ T) t m (i + 1) = ((mnT T (WT κ T) t m i) + ((T 8 (4 * t + i)) * (WT κ T (T 3 t) (arT T t i m)))) := rfl
        have q := ih (i + 1) (by omega) (by omega)
        rw [e] at q
        exact a_lv (lv' := [(5, vI (((i + 1) : Nat) : Int)), (4, vI ((mnT T (WT κ T) t m i) + ((T 8 (4 * t + i)) * (WT κ T (T 3 t) (arT T t i m))))), (0, vA 80), (1, vA 63), (2, vI ((t : Nat) : Int)), (3, vI m)]) (by intro q hq; simp only [List.mem_cons, List.not_mem_nil, or_false] at hq ⊢; rcases hq with rfl | rfl | rfl | rfl | rfl | rfl <;> simp) q
theorem c_X0_meanBehind_80 {γ : GT} {d : Nat} {κ : Int} {T : Nat → Nat → Int} {t : Nat} {m P : Int} {h : Nat → Nat → Int} {τ : List AC} {Post : Option AV → List AC → Prop} (hd : 2 ≤ d) (hκ0 : h 80 0 = κ) (hκ : κ = 1) (hT : tOK T) (hTT : TT h T) (ht : (t : Int) < T 0 2) (hm : 0 ≤ m ∧ m ≤ 1589) (hC : CHp h 80 κ T P) (hP : plT T (m + 1) ≤ P) (kQ : Post (some (vI (bhT κ T (WT κ T) t m))) (mk h τ)) : Cj γ mX0_meanBehind d 0 0 [vA 80, vA 63, vI ((t : Nat) : Int), vI m] (mk h τ) Post := by
  refine c_of (by decide) (Nat.le_of_ble_eq_true rfl) ?_
  show Aj γ mX0_meanBehind d 0 0 Post 0 [(0, vA 80), (1, vA 63), (2, vI ((t : Nat) : Int)), (3, vI m)] [] (mk h τ)
  refine a_iconst dX0_meanBehind_0 ⟨by decide, by decide⟩ ?_
  refine a_istore (lv' := [(4, vI 0), (0, vA 80), (1, vA 63), (2, vI ((t : Nat) : Int)), (3, vI m)]) dX0_meanBehind_1 (by decide) rfl ?_
  refine a_iconst dX0_meanBehind_3 ⟨by decide, by decide⟩ ?_
  refine a_istore (lv' := [(5, vI 0), (4, vI 0), (0, vA 80), (1, vA 63), (2, vI ((t : Nat) : Int)), (3, vI m)]) dX0_meanBehind_4 (by decide) rfl ?_
  exact a_lv (lv' := [(5, vI ((0 : Nat) : Int)), (4, vI 0), (0, vA 80), (1, vA 63), (2, vI ((t : Nat) : Int)), (3, vI m)]) (by intro q hq; simp only [List.mem_cons, List.not_mem_nil, or_false] at hq ⊢; rcases hq with rfl | rfl | rfl | rfl | rfl | rfl <;> simp) (l_mb_80 hd hκ0 hκ hT hTT ht hm hC hP kQ 5 0 (by omega) (by omega))
set_option maxHeartbeats 8000000 in
theorem l_bt_80 {γ : GT} {d : Nat} {κ : Int} {T : Nat → Nat → Int} {n : Nat} {s m P : Int} {h : Nat → Nat → Int} {τ : List AC} {Post : Option AV → List AC → Prop} (hd : 3 ≤ d) (hκ0 : h 80 0 = κ) (hκ : κ = 1) (hT : tOK T) (hTT : TT h T) (hs : 0 ≤ s ∧ s ≤ 5) (hm : 0 ≤ m ∧ m ≤ 5000) (hC : CHp h 80 κ T P) (hP : m ≤ 1589 → plT T (m + 1) ≤ P) (hn : T 0 2 = ((n : Nat) : Int)) (kQ : ∀ h', Fr [80] h h' → (∀ k, k ≠ 3 → h' 80 k = h 80 k) → (¬ s = T 0 0 → h' 80 3 = (bsT κ T (WT κ T) s m (Int.toNat (T 0 2))).2) → Post (some (vI (hsF (TKk κ T s m)))) (mk h' τ)) :
    ∀ (f i : Nat) (h1 : Nat → Nat → Int), i ≤ n → n < i + f → Fr [80] h h1 → (h1 80 3 = (bsT κ T (WT κ T) s m i).2) → (∀ k, k ≠ 3 → h1 80 k = h 80 k) → (¬ s = T 0 0 ∨ i = 0) → Aj γ mX0_bestTrain d 0 0 Post 15 [(5, vI ((i : Nat) : Int)), (4, vI (hsF (bsT κ T (WT κ T) s m i).1)), (0, vA 80), (1, vA 63), (2, vI s), (3, vI m)] [] (mk h1 τ) := by
  intro f
  induction f with
  | zero => intro i h1  h1_ h2_; omega
  | succ f ih =>
    intro i h1  h1_ h2_ hF ib iq ig
    have h2_ := hT.2.2.1
    have hb := hT.2.2.2.2.2 i
    have hb6 := hb.2.2.2.2.1
    have hb7 := hb.2.2.2.2.2.1
    have hbr := bsT_rng κ T (WT κ T) s m i
    have hhs := hsF_c (bsT κ T (WT κ T) s m i).1
    have hls := lsT_rng hT i
    have hlq : lsT T i = T 6 i + T 7 i := rfl
    refine a_iload (j := 0) dX0_bestTrain_15 rfl ?_
    refine a_aload_n (j := 3) dX0_bestTrain_17 rfl rfl (Nat.le_of_ble_eq_true rfl) ?_
    refine b_get (a := 63) (z := ((n : Nat) : Int)) (t := 0) dX0_bestTrain_18 fwX0_43 (by decide) rfl (by decide) rfl rfl ((Fr_v hF (by decide)).trans (hTT.1.2.2.trans hn)) ?_
    refine a_icmp_ge (tgt := 118) dX0_bestTrain_21 (by decide) (fun c21_1 => ?_) (fun c21_1 => ?_)
    · refine a_iload (j := 1) dX0_bestTrain_118 rfl ?_
      exact a_iret dX0_bestTrain_120 rfl (by
        by_cases cg : s = T 0 0
        · obtain rfl : i = 0 := (by omega)
          exact post_v (kQ _ hF iq (fun hg => absurd cg hg)) (by unfold TKk; rw [if_pos cg]; rfl)
        · obtain rfl : i = n := (by omega)
          exact post_v (kQ _ hF iq (fun hg => by rw [show Int.toNat (T 0 2) = i by omega]; exact ib)) (by unfold TKk; rw [if_neg cg, show Int.toNat (T 0 2) = i by omega]))
    · refine a_iload_n (j := 4) dX0_bestTrain_24 rfl rfl ?_
      refine a_aload_n (j := 3) dX0_bestTrain_25 rfl rfl (Nat.le_of_ble_eq_true rfl) ?_
      refine b_get (a := 63) (z := T 0 0) (t := 0) dX0_bestTrain_26 fwX0_67 (by decide) rfl (by decide) rfl rfl ((Fr_v hF (by decide)).trans hTT.1.1) ?_
      refine a_icmp_eq (tgt := 118) dX0_bestTrain_29 (by decide) (fun c29_2 => ?_) (fun c29_2 => ?_)
      · refine a_iload (j := 1) dX0_bestTrain_118 rfl ?_
        exact a_iret dX0_bestTrain_120 rfl (by
        by_cases cg : s = T 0 0
        · obtain rfl : i = 0 := (by omega)
          exact post_v (kQ _ hF iq (fun hg => absurd cg hg)) (by unfold TKk; rw [if_pos cg]; rfl)
        · obtain rfl : i = n := (by omega)
          exact post_v (kQ _ hF iq (fun hg => by rw [show Int.toNat (T 0 2) = i by omega]; exact ib)) (by unfold TKk; rw [if_neg cg, show Int.toNat (T 0 2) = i by omega]))
      · refine a_aload_n (j := 3) dX0_bestTrain_32 rfl rfl (Nat.le_of_ble_eq_true rfl) ?_
        refine b_getp (a := 63) (p := 65) dX0_bestTrain_33 fwX0_57 (by decide) rfl (by decide) rfl rfl ?_
        refine a_iload (j := 0) dX0_bestTrain_36 rfl ?_
        refine b_iaload (a := 65) (z := T 2 i) i dX0_bestTrain_38 (by decide) rfl rfl (by omega) (sp_nil rfl _) ((Fr_v hF (by decide)).trans (hTT.2.2.1 i (by omega)).1) (fun r38_3 => ?_)
        refine a_iload_n (j := 4) dX0_bestTrain_39 rfl rfl ?_
        refine a_icmp_ne (tgt := 112) dX0_bestTrain_40 (by decide) (fun c40_4 => ?_) (fun c40_4 => ?_)
        · refine a_iinc (j := 0) (z' := ((i + 1 : Nat) : Int)) (lv' := [(5, vI ((i + 1 : Nat) : Int)), (4, vI (hsF (bsT κ T (WT κ T) s m i).1)), (0, vA 80), (1, vA 63), (2, vI s), (3, vI m)]) dX0_bestTrain_112 rfl (w_okN (by omega) (by omega) (by omega)) (by decide) rfl ?_
          refine a_goto (tgt := 15) dX0_bestTrain_115 (by decide) ?_
          have e0 : bsT κ T (WT κ T) s m (i + 1) = bsT κ T (WT κ T) s m i := by
            rw [bsT_s]
            first | (rw [if_neg (by omega)]; done) | (rw [if_pos ⟨by omega, by omega⟩, if_neg (by omega)])
          have e : hsF (bsT κ T (WT κ T) s m (i + 1)).1 = (hsF (bsT κ T (WT κ T) s m i).1) := (by rw [e0])
          have q := ih (i + 1) h1 (by omega) (by omega) (Fr_m (by decide) hF) (by rw [e0]; exact ib) iq (by omega)
          rw [e] at q
          exact a_lv (lv' := [(5, vI (((i + 1) : Nat) : Int)), (4, vI (hsF (bsT κ T (WT κ T) s m i).1)), (0, vA 80), (1, vA 63), (2, vI s), (3, vI m)]) (by intro q hq; simp only [List.mem_cons, List.not_mem_nil, or_false] at hq ⊢; rcases hq with rfl | rfl | rfl | rfl | rfl | rfl <;> simp) q
        · refine a_aload_n (j := 3) dX0_bestTrain_43 rfl rfl (Nat.le_of_ble_eq_true rfl) ?_
          refine a_iload (j := 0) dX0_bestTrain_44 rfl ?_
          refine b_callV (d' := d - 1) (mc' := 0) (ms' := 0) (mc1 := 0) (ms1 := 0) (st := []) (b := 63) [vI ((i : Nat) : Int)] dX0_bestTrain_46 mwX5_lastMinute lkX0_49 (by decide) rfl rc_X5 rfl (Nat.le_of_ble_eq_true rfl) (by omega) rfl rfl (c_X5_lastMinute (v1 := (T 6 i)) (v2 := (T 7 i)) (by omega)  ((Fr_v hF (by decide)).trans ((congrArg (h 69) (show (Int.toNat ((i : Nat) : Int)) = i by omega)).trans (hTT.2.2.1 i (by omega)).2.2.2.2.1)) ((Fr_v hF (by decide)).trans ((congrArg (h 70) (show (Int.toNat ((i : Nat) : Int)) = i by omega)).trans (hTT.2.2.1 i (by omega)).2.2.2.2.2.1)) (show 0 ≤ ((i : Nat) : Int) ∧ ((i : Nat) : Int) ≤ 11 by omega) (show 0 ≤ (T 6 i) ∧ (T 6 i) ≤ 1559 by omega) (show 0 ≤ (T 7 i) ∧ (T 7 i) ≤ 30 by omega) ?_)
          show Aj γ mX0_bestTrain d 0 0 Post 49 [(5, vI ((i : Nat) : Int)), (4, vI (hsF (bsT κ T (WT κ T) s m i).1)), (0, vA 80), (1, vA 63), (2, vI s), (3, vI m)] [vI ((T 6 i) + (T 7 i))] (mk h1 τ)
          refine a_iload_n (j := 5) dX0_bestTrain_49 rfl rfl ?_
          refine a_icmp_lt (tgt := 112) dX0_bestTrain_50 (by decide) (fun c50_5 => ?_) (fun c50_5 => ?_)
          · refine a_iinc (j := 0) (z' := ((i + 1 : Nat) : Int)) (lv' := [(5, vI ((i + 1 : Nat) : Int)), (4, vI (hsF (bsT κ T (WT κ T) s m i).1)), (0, vA 80), (1, vA 63), (2, vI s), (3, vI m)]) dX0_bestTrain_112 rfl (w_okN (by omega) (by omega) (by omega)) (by decide) rfl ?_
            refine a_goto (tgt := 15) dX0_bestTrain_115 (by decide) ?_
            have e0 : bsT κ T (WT κ T) s m (i + 1) = bsT κ T (WT κ T) s m i := by
              rw [bsT_s]
              first | (rw [if_neg (by omega)]; done) | (rw [if_pos ⟨by omega, by omega⟩, if_neg (by omega)])
            have e : hsF (bsT κ T (WT κ T) s m (i + 1)).1 = (hsF (bsT κ T (WT κ T) s m i).1) := (by rw [e0])
            have q := ih (i + 1) h1 (by omega) (by omega) (Fr_m (by decide) hF) (by rw [e0]; exact ib) iq (by omega)
            rw [e] at q
            exact a_lv (lv' := [(5, vI (((i + 1) : Nat) : Int)), (4, vI (hsF (bsT κ T (WT κ T) s m i).1)), (0, vA 80), (1, vA 63), (2, vI s), (3, vI m)]) (by intro q hq; simp only [List.mem_cons, List.not_mem_nil, or_false] at hq ⊢; rcases hq with rfl | rfl | rfl | rfl | rfl | rfl <;> simp) q
          · refine a_aload_n (j := 2) dX0_bestTrain_53 rfl rfl (Nat.le_of_ble_eq_true rfl) ?_
            refine b_get (a := 80) (z := κ) (t := 0) dX0_bestTrain_54 fwX0_19 (by decide) rfl (by decide) rfl rfl ((iq 0 (by decide)).trans hκ0) ?_
            refine a_iconst dX0_bestTrain_57 ⟨by decide, by decide⟩ ?_
            refine a_icmp_ne (tgt := 72) dX0_bestTrain_58 (by decide) (fun c58_6 => ?_) (fun c58_6 => absurd c58_6 (by omega))
            refine a_aload_n (j := 2) dX0_bestTrain_72 rfl rfl (Nat.le_of_ble_eq_true rfl) ?_
            refine a_aload_n (j := 3) dX0_bestTrain_73 rfl rfl (Nat.le_of_ble_eq_true rfl) ?_
            refine a_iload (j := 0) dX0_bestTrain_74 rfl ?_
            refine a_iload_n (j := 5) dX0_bestTrain_76 rfl rfl ?_
            refine b_callV (d' := d - 1) (mc' := 0) (ms' := 0) (mc1 := 0) (ms1 := 0) (st := []) (b := 80) [vA 63, vI ((i : Nat) : Int), vI m] dX0_bestTrain_77 mwX0_meanBehind lkX0_86 (by decide) rfl rc_X0 rfl (Nat.le_of_ble_eq_true rfl) (by omega) rfl rfl (c_X0_meanBehind_80 (κ := κ) (T := T) (t := i) (m := m) (P := P) (by omega) ((iq 0 (by decide)).trans hκ0) hκ hT (TT_fr (by decide) hF hTT) (by omega) (by omega) (CHp_fr (hF 81 (by decide)) hC) (hP (by omega)) ?_)
            show Aj γ mX0_bestTrain d 0 0 Post 80 [(5, vI ((i : Nat) : Int)), (4, vI (hsF (bsT κ T (WT κ T) s m i).1)), (0, vA 80), (1, vA 63), (2, vI s), (3, vI m)] [vI (bhT κ T (WT κ T) i m)] (mk h1 τ)
            refine a_istore (lv' := [(6, vI (bhT κ T (WT κ T) i m)), (5, vI ((i : Nat) : Int)), (4, vI (hsF (bsT κ T (WT κ T) s m i).1)), (0, vA 80), (1, vA 63), (2, vI s), (3, vI m)]) dX0_bestTrain_80 (by decide) rfl ?_
            refine a_iload (j := 2) dX0_bestTrain_82 rfl ?_
            refine a_ldc (z := (-1000000005)) dX0_bestTrain_84 kwX0_82 ⟨by decide, by decide, by decide⟩ ?_
            refine a_icmp_eq (tgt := 102) dX0_bestTrain_86 (by decide) (fun c86_7 => ?_) (fun c86_7 => ?_)
            · refine a_iload (j := 1) dX0_bestTrain_102 rfl ?_
              refine a_istore (lv' := [(4, vI ((i : Nat) : Int)), (6, vI (bhT κ T (WT κ T) i m)), (5, vI ((i : Nat) : Int)), (0, vA 80), (1, vA 63), (2, vI s), (3, vI m)]) dX0_bestTrain_104 (by decide) rfl ?_
              refine a_aload_n (j := 3) dX0_bestTrain_106 rfl rfl (Nat.le_of_ble_eq_true rfl) ?_
              refine a_iload (j := 1) dX0_bestTrain_107 rfl ?_
              refine b_put (a := 80) (v := vI (bhT κ T (WT κ T) i m)) dX0_bestTrain_109 pwX0_64 (fun h => nomatch h) (by decide) rfl (by decide) rfl rfl (fit_int _) ?_
              show Aj γ mX0_bestTrain d 0 0 Post 112 [(4, vI ((i : Nat) : Int)), (6, vI (bhT κ T (WT κ T) i m)), (5, vI ((i : Nat) : Int)), (0, vA 80), (1, vA 63), (2, vI s), (3, vI m)] [] (mk (up2 h1 80 3 (bhT κ T (WT κ T) i m)) τ)
              refine a_iinc (j := 2) (z' := ((i + 1 : Nat) : Int)) (lv' := [(5, vI ((i + 1 : Nat) : Int)), (4, vI ((i : Nat) : Int)), (6, vI (bhT κ T (WT κ T) i m)), (0, vA 80), (1, vA 63), (2, vI s), (3, vI m)]) dX0_bestTrain_112 rfl (w_okN (by omega) (by omega) (by omega)) (by decide) rfl ?_
              refine a_goto (tgt := 15) dX0_bestTrain_115 (by decide) ?_
              have e0 : bsT κ T (WT κ T) s m (i + 1) = ((i : Int), bhT κ T (WT κ T) i m) := by
                rw [bsT_s, if_pos ⟨by omega, by omega⟩, if_pos (by omega)]
              have e : hsF (bsT κ T (WT κ T) s m (i + 1)).1 = ((i : Nat) : Int) := (by rw [e0]; unfold hsF; rw [if_neg (by omega)])
              have q := ih (i + 1) (up2 h1 80 3 (bhT κ T (WT κ T) i m)) (by omega) (by omega) (Fr_u (by decide) (Fr_m (by decide) hF)) (by rw [e0]; exact up2_at) (fun k hk => (up2_ne (by omega)).trans (iq k hk)) (by omega)
              rw [e] at q
              exact a_lv (lv' := [(5, vI (((i + 1) : Nat) : Int)), (4, vI ((i : Nat) : Int)), (0, vA 80), (1, vA 63), (2, vI s), (3, vI m)]) (by intro q hq; simp only [List.mem_cons, List.not_mem_nil, or_false] at hq ⊢; rcases hq with rfl | rfl | rfl | rfl | rfl | rfl <;> simp) q
            · refine a_aload_n (j := 3) dX0_bestTrain_89 rfl rfl (Nat.le_of_ble_eq_true rfl) ?_
              refine a_iload (j := 0) dX0_bestTrain_90 rfl ?_
              refine a_aload_n (j := 3) dX0_bestTrain_92 rfl rfl (Nat.le_of_ble_eq_true rfl) ?_
              refine b_get (a := 80) (z := (bsT κ T (WT κ T) s m i).2) (t := 0) dX0_bestTrain_93 fwX0_64 (by decide) rfl (by decide) rfl rfl ib ?_
              refine b_callV (d' := d - 1) (mc' := 0) (ms' := 0) (mc1 := 0) (ms1 := 0) (st := []) (b := 80) [vI (bhT κ T (WT κ T) i m), vI ((bsT κ T (WT κ T) s m i).2)] dX0_bestTrain_96 mwX0_isBetter lkX0_89 (by decide) rfl rc_X0 rfl (Nat.le_of_ble_eq_true rfl) (by omega) rfl rfl (c_X0_isBetter (v1 := κ) (by omega) (Or.inr (Or.inl rfl)) ((iq 0 (by decide)).trans hκ0)  (fun t96_8 => ?_) (fun t96_8 => ?_))
              · have t96_8 : (κ = 1 ∧ ((bsT κ T (WT κ T) s m i).2) < (bhT κ T (WT κ T) i m)) ∨ (¬ κ = 1 ∧ (bhT κ T (WT κ T) i m) < ((bsT κ T (WT κ T) s m i).2)) := t96_8
                show Aj γ mX0_bestTrain d 0 0 Post 99 [(6, vI (bhT κ T (WT κ T) i m)), (5, vI ((i : Nat) : Int)), (4, vI (hsF (bsT κ T (WT κ T) s m i).1)), (0, vA 80), (1, vA 63), (2, vI s), (3, vI m)] [vI 1] (mk h1 τ)
                refine a_if_eq (tgt := 112) dX0_bestTrain_99 (by decide) (fun c => absurd c (by decide)) (fun _ => ?_)
                refine a_iload (j := 1) dX0_bestTrain_102 rfl ?_
                refine a_istore (lv' := [(4, vI ((i : Nat) : Int)), (6, vI (bhT κ T (WT κ T) i m)), (5, vI ((i : Nat) : Int)), (0, vA 80), (1, vA 63), (2, vI s), (3, vI m)]) dX0_bestTrain_104 (by decide) rfl ?_
                refine a_aload_n (j := 3) dX0_bestTrain_106 rfl rfl (Nat.le_of_ble_eq_true rfl) ?_
                refine a_iload (j := 1) dX0_bestTrain_107 rfl ?_
                refine b_put (a := 80) (v := vI (bhT κ T (WT κ T) i m)) dX0_bestTrain_109 pwX0_64 (fun h => nomatch h) (by decide) rfl (by decide) rfl rfl (fit_int _) ?_
                show Aj γ mX0_bestTrain d 0 0 Post 112 [(4, vI ((i : Nat) : Int)), (6, vI (bhT κ T (WT κ T) i m)), (5, vI ((i : Nat) : Int)), (0, vA 80), (1, vA 63), (2, vI s), (3, vI m)] [] (mk (up2 h1 80 3 (bhT κ T (WT κ T) i m)) τ)
                refine a_iinc (j := 2) (z' := ((i + 1 : Nat) : Int)) (lv' := [(5, vI ((i + 1 : Nat) : Int)), (4, vI ((i : Nat) : Int)), (6, vI (bhT κ T (WT κ T) i m)), (0, vA 80), (1, vA 63), (2, vI s), (3, vI m)]) dX0_bestTrain_112 rfl (w_okN (by omega) (by omega) (by omega)) (by decide) rfl ?_
                refine a_goto (tgt := 15) dX0_bestTrain_115 (by decide) ?_
                have e0 : bsT κ T (WT κ T) s m (i + 1) = ((i : Int), bhT κ T (WT κ T) i m) := by
                  rw [bsT_s, if_pos ⟨by omega, by omega⟩, if_pos (by omega)]
                have e : hsF (bsT κ T (WT κ T) s m (i + 1)).1 = ((i : Nat) : Int) := (by rw [e0]; unfold hsF; rw [if_neg (by omega)])
                have q := ih (i + 1) (up2 h1 80 3 (bhT κ T (WT κ T) i m)) (by omega) (by omega) (Fr_u (by decide) (Fr_m (by decide) hF)) (by rw [e0]; exact up2_at) (fun k hk => (up2_ne (by omega)).trans (iq k hk)) (by omega)
                rw [e] at q
                exact a_lv (lv' := [(5, vI (((i + 1) : Nat) : Int)), (4, vI ((i : Nat) : Int)), (0, vA 80), (1, vA 63), (2, vI s), (3, vI m)]) (by intro q hq; simp only [List.mem_cons, List.not_mem_nil, or_false] at hq ⊢; rcases hq with rfl | rfl | rfl | rfl | rfl | rfl <;> simp) q
              · have t96_8 : ¬ ((κ = 1 ∧ ((bsT κ T (WT κ T) s m i).2) < (bhT κ T (WT κ T) i m)) ∨ (¬ κ = 1 ∧ (bhT κ T (WT κ T) i m) < ((bsT κ T (WT κ T) s m i).2))) := t96_8
                show Aj γ mX0_bestTrain d 0 0 Post 99 [(6, vI (bhT κ T (WT κ T) i m)), (5, vI ((i : Nat) : Int)), (4, vI (hsF (bsT κ T (WT κ T) s m i).1)), (0, vA 80), (1, vA 63), (2, vI s), (3, vI m)] [vI 0] (mk h1 τ)
                refine a_if_eq (tgt := 112) dX0_bestTrain_99 (by decide) (fun _ => ?_) (fun c => absurd c (by decide))
                refine a_iinc (j := 1) (z' := ((i + 1 : Nat) : Int)) (lv' := [(5, vI ((i + 1 : Nat) : Int)), (6, vI (bhT κ T (WT κ T) i m)), (4, vI (hsF (bsT κ T (WT κ T) s m i).1)), (0, vA 80), (1, vA 63), (2, vI s), (3, vI m)]) dX0_bestTrain_112 rfl (w_okN (by omega) (by omega) (by omega)) (by decide) rfl ?_
                refine a_goto (tgt := 15) dX0_bestTrain_115 (by decide) ?_
                have e0 : bsT κ T (WT κ T) s m (i + 1) = bsT κ T (WT κ T) s m i := by
                  rw [bsT_s]
                  first | (rw [if_neg (by omega)]; done) | (rw [if_pos ⟨by omega, by omega⟩, if_neg (by omega)])
                have e : hsF (bsT κ T (WT κ T) s m (i + 1)).1 = (hsF (bsT κ T (WT κ T) s m i).1) := (by rw [e0])
                have q := ih (i + 1) h1 (by omega) (by omega) (Fr_m (by decide) hF) (by rw [e0]; exact ib) iq (by omega)
                rw [e] at q
                exact a_lv (lv' := [(5, vI (((i + 1) : Nat) : Int)), (4, vI (hsF (bsT κ T (WT κ T) s m i).1)), (0, vA 80), (1, vA 63), (2, vI s), (3, vI m)]) (by intro q hq; simp only [List.mem_cons, List.not_mem_nil, or_false] at hq ⊢; rcases hq with rfl | rfl | rfl | rfl | rfl | rfl <;> simp) q
theorem c_X0_bestTrain_80 {γ : GT} {d : Nat} {κ : Int} {T : Nat → Nat → Int} {s m P : Int} {h : Nat → Nat → Int} {τ : List AC} {Post : Option AV → List AC → Prop} (hd : 3 ≤ d) (hκ0 : h 80 0 = κ) (hκ : κ = 1) (hT : tOK T) (hTT : TT h T) (hs : 0 ≤ s ∧ s ≤ 5) (hm : 0 ≤ m ∧ m ≤ 5000) (hC : CHp h 80 κ T P) (hP : m ≤ 1589 → plT T (m + 1) ≤ P) (kQ : ∀ h', Fr [80] h h' → (∀ k, k ≠ 3 → h' 80 k = h 80 k) → (¬ s = T 0 0 → h' 80 3 = (bsT κ T (WT κ T) s m (Int.toNat (T 0 2))).2) → Post (some (vI (hsF (TKk κ T s m)))) (mk h' τ)) : Cj γ mX0_bestTrain d 0 0 [vA 80, vA 63, vI s, vI m] (mk h τ) Post := by
  have h2_ := hT.2.2.1
  obtain ⟨n, hn⟩ : ∃ n : Nat, T 0 2 = (n : Int) := ⟨Int.toNat (T 0 2), by omega⟩
  refine c_of (by decide) (Nat.le_of_ble_eq_true rfl) ?_
  show Aj γ mX0_bestTrain d 0 0 Post 0 [(0, vA 80), (1, vA 63), (2, vI s), (3, vI m)] [] (mk h τ)
  refine a_ldc (z := (-1000000005)) dX0_bestTrain_0 kwX0_82 ⟨by decide, by decide, by decide⟩ ?_
  refine a_istore (lv' := [(4, vI (-1000000005)), (0, vA 80), (1, vA 63), (2, vI s), (3, vI m)]) dX0_bestTrain_2 (by decide) rfl ?_
  refine a_aload_n (j := 1) dX0_bestTrain_4 rfl rfl (Nat.le_of_ble_eq_true rfl) ?_
  refine a_aload_n (j := 1) dX0_bestTrain_5 rfl rfl (Nat.le_of_ble_eq_true rfl) ?_
  refine b_callV (d' := d - 1) (mc' := 0) (ms' := 0) (mc1 := 0) (ms1 := 0) (st := [vA 80]) (b := 80) [] dX0_bestTrain_6 mwX0_worthOfNone lkX0_33 (by decide) rfl rc_X0 rfl (Nat.le_of_ble_eq_true rfl) (by omega) rfl rfl (c_X0_worthOfNone (v1 := κ) (by omega) (Or.inr (Or.inl rfl)) hκ0  ?_)
  show Aj γ mX0_bestTrain d 0 0 Post 9 [(4, vI (-1000000005)), (0, vA 80), (1, vA 63), (2, vI s), (3, vI m)] [vI (wonF κ), vA 80] (mk h τ)
  refine b_put (a := 80) (v := vI (wonF κ)) dX0_bestTrain_9 pwX0_64 (fun h => nomatch h) (by decide) rfl (by decide) rfl rfl (fit_int _) ?_
  show Aj γ mX0_bestTrain d 0 0 Post 12 [(4, vI (-1000000005)), (0, vA 80), (1, vA 63), (2, vI s), (3, vI m)] [] (mk (up2 h 80 3 (wonF κ)) τ)
  refine a_iconst dX0_bestTrain_12 ⟨by decide, by decide⟩ ?_
  refine a_istore (lv' := [(5, vI 0), (4, vI (-1000000005)), (0, vA 80), (1, vA 63), (2, vI s), (3, vI m)]) dX0_bestTrain_13 (by decide) rfl ?_
  have q := l_bt_80 (γ := γ) (d := d) (τ := τ) (Post := Post) (h := h) (P := P) (n := n) hd hκ0 hκ hT hTT hs hm hC hP hn kQ (n + 1) 0 (up2 h 80 3 (wonF κ)) (by omega) (by omega) (Fr_u (by decide) Fr_r) up2_at (fun k hk => up2_ne (by omega)) (by omega)
  exact a_lv (lv' := [(5, vI ((0 : Nat) : Int)), (4, vI (-1000000005)), (0, vA 80), (1, vA 63), (2, vI s), (3, vI m)]) (by intro q hq; simp only [List.mem_cons, List.not_mem_nil, or_false] at hq ⊢; rcases hq with rfl | rfl | rfl | rfl | rfl | rfl <;> simp) q
set_option maxHeartbeats 4000000 in
theorem c_X0_worthAt_82 {γ : GT} {d : Nat} {κ : Int} {T : Nat → Nat → Int} {s m : Int} {h : Nat → Nat → Int} {τ : List AC} {Post : Option AV → List AC → Prop} (hd : 1 ≤ d) (hκ0 : h 82 0 = κ) (hκ : κ = 2) (hT : tOK T) (hTT : TT h T) (hs : 0 ≤ s ∧ s ≤ 5) (hm : 0 ≤ m ∧ m ≤ 5000) (hC : ¬ s = T 0 0 → m ≤ 1589 → h 83 (Int.toNat (s * 373 + plT T m)) = WT κ T s m) (kQ : Post (some (vI (WT κ T s m))) (mk h τ)) : Cj γ mX0_worthAt d 0 0 [vA 82, vA 63, vI s, vI m] (mk h τ) Post := by
  refine c_of (by decide) (Nat.le_of_ble_eq_true rfl) ?_
  show Aj γ mX0_worthAt d 0 0 Post 0 [(0, vA 82), (1, vA 63), (2, vI s), (3, vI m)] [] (mk h τ)
  refine a_iload_n (j := 2) dX0_worthAt_0 rfl rfl ?_
  refine a_aload_n (j := 1) dX0_worthAt_1 rfl rfl (Nat.le_of_ble_eq_true rfl) ?_
  refine b_get (a := 63) (z := T 0 0) (t := 0) dX0_worthAt_2 fwX0_67 (by decide) rfl (by decide) rfl rfl hTT.1.1 ?_
  refine a_icmp_ne (tgt := 18) dX0_worthAt_5 (by decide) (fun c5_1 => ?_) (fun c5_1 => ?_)
  · refine a_iload_n (j := 3) dX0_worthAt_18 rfl rfl ?_
    refine a_iconst dX0_worthAt_19 ⟨by decide, by decide⟩ ?_
    refine a_sipush dX0_worthAt_20 ⟨by decide, by decide, by decide⟩ ?_
    refine a_callS (d' := d - 1) (mc' := 0) (ms' := 0) (mc1 := 0) (ms1 := 0) (st := []) [vI m, vI 0, vI 1589] dX0_worthAt_23 mwX8_within lkX0_53 rfl (Nat.le_of_ble_eq_true rfl) (by omega) rfl rfl (c_X8_within  (by omega)    (fun t23_2 => ?_) (fun t23_2 => ?_))
    · have t23_2 : 0 ≤ m ∧ m ≤ 1589 := t23_2
      show Aj γ mX0_worthAt d 0 0 Post 26 [(0, vA 82), (1, vA 63), (2, vI s), (3, vI m)] [vI 1] (mk h τ)
      refine a_if_ne (tgt := 34) dX0_worthAt_26 (by decide) (fun _ => ?_) (fun c => absurd c (by decide))
      refine a_aload_n (j := 0) dX0_worthAt_34 rfl rfl (Nat.le_of_ble_eq_true rfl) ?_
      refine b_getp (a := 82) (p := 83) dX0_worthAt_35 fwX0_11 (by decide) rfl (by decide) rfl rfl ?_
      refine a_iload_n (j := 2) dX0_worthAt_38 rfl rfl ?_
      refine a_sipush dX0_worthAt_39 ⟨by decide, by decide, by decide⟩ ?_
      refine a_imul (z := (s * 373)) dX0_worthAt_42 (w_ok (by omega) (by omega)) ?_
      refine a_aload_n (j := 1) dX0_worthAt_43 rfl rfl (Nat.le_of_ble_eq_true rfl) ?_
      refine b_getp (a := 63) (p := 74) dX0_worthAt_44 fwX0_77 (by decide) rfl (by decide) rfl rfl ?_
      refine a_iload_n (j := 3) dX0_worthAt_47 rfl rfl ?_
      refine b_iaload (a := 74) (z := plT T m) (Int.toNat m) dX0_worthAt_48 (by decide) rfl (by omega) (by omega) (sp_nil rfl _) (TT_pl hTT (by omega) (by omega)) (fun r48_3 => ?_)
      have hpl := plT_rng hT m
      refine a_iadd (z := ((s * 373) + (plT T m))) dX0_worthAt_49 (w_ok (by omega) (by omega)) ?_
      refine b_iaload (a := 83) (z := WT κ T s m) (Int.toNat (s * 373 + plT T m)) dX0_worthAt_50 (by decide) rfl (by omega) (by omega) (sp_nil rfl _) (hC (by omega) (by omega)) (fun r50_4 => ?_)
      exact a_iret dX0_worthAt_51 rfl kQ
    · have t23_2 : ¬ (0 ≤ m ∧ m ≤ 1589) := t23_2
      show Aj γ mX0_worthAt d 0 0 Post 26 [(0, vA 82), (1, vA 63), (2, vI s), (3, vI m)] [vI 0] (mk h τ)
      refine a_if_ne (tgt := 34) dX0_worthAt_26 (by decide) (fun c => absurd c (by decide)) (fun _ => ?_)
      refine a_aload_n (j := 0) dX0_worthAt_29 rfl rfl (Nat.le_of_ble_eq_true rfl) ?_
      refine b_callV (d' := d - 1) (mc' := 0) (ms' := 0) (mc1 := 0) (ms1 := 0) (st := []) (b := 82) [] dX0_worthAt_30 mwX0_worthOfNone lkX0_33 (by decide) rfl rc_X0 rfl (Nat.le_of_ble_eq_true rfl) (by omega) rfl rfl (c_X0_worthOfNone (v1 := κ) (by omega) (Or.inr (Or.inr rfl)) hκ0  ?_)
      show Aj γ mX0_worthAt d 0 0 Post 33 [(0, vA 82), (1, vA 63), (2, vI s), (3, vI m)] [vI (wonF κ)] (mk h τ)
      exact a_iret dX0_worthAt_33 rfl (post_v kQ (by rw [WT_late hT (by omega) (by omega)]))
  · refine a_aload_n (j := 0) dX0_worthAt_8 rfl rfl (Nat.le_of_ble_eq_true rfl) ?_
    refine a_iload_n (j := 3) dX0_worthAt_9 rfl rfl ?_
    refine a_aload_n (j := 1) dX0_worthAt_10 rfl rfl (Nat.le_of_ble_eq_true rfl) ?_
    refine b_get (a := 63) (z := T 0 1) (t := 0) dX0_worthAt_11 fwX0_70 (by decide) rfl (by decide) rfl rfl hTT.1.2.1 ?_
    refine b_callV (d' := d - 1) (mc' := 0) (ms' := 0) (mc1 := 0) (ms1 := 0) (st := []) (b := 82) [vI m, vI (T 0 1)] dX0_worthAt_14 mwX0_worthAtGoal lkX0_73 (by decide) rfl rc_X0 rfl (Nat.le_of_ble_eq_true rfl) (by omega) rfl rfl (c_X0_worthAtGoal (v1 := κ) (by omega) (Or.inr (Or.inr rfl)) hκ0 (show 0 ≤ m ∧ m ≤ 10000 by omega) ?_)
    show Aj γ mX0_worthAt d 0 0 Post 17 [(0, vA 82), (1, vA 63), (2, vI s), (3, vI m)] [vI (wogF κ m (T 0 1))] (mk h τ)
    exact a_iret dX0_worthAt_17 rfl (post_v kQ (by rw [WT_eq hT (by omega), if_pos (by omega)]))
set_option maxHeartbeats 8000000 in
theorem l_db_82 {γ : GT} {d : Nat} {κ : Int} {T : Nat → Nat → Int} {t : Nat} {m P : Int} {h : Nat → Nat → Int} {τ : List AC} {Post : Option AV → List AC → Prop} (hd : 2 ≤ d) (hκ0 : h 82 0 = κ) (hκ : κ = 2) (hT : tOK T) (hTT : TT h T) (ht : (t : Int) < T 0 2) (hm : 0 ≤ m ∧ m ≤ 1589) (hC : CHp h 82 κ T P) (hP : plT T (m + 1) ≤ P) (kQ : Post (some (vI (bhT κ T (WT κ T) t m))) (mk h τ)) :
    ∀ (f i : Nat), i ≤ 4 → 4 < i + f → Aj γ mX0_dearestBehind d 0 0 Post 6 [(5, vI ((i : Nat) : Int)), (4, vI (dmT T (WT κ T) t m i)), (0, vA 82), (1, vA 63), (2, vI ((t : Nat) : Int)), (3, vI m)] [] (mk h τ) := by
  intro f
  induction f with
  | zero => intro i h1 h2; omega
  | succ f ih =>
    intro i h1 h2
    have h2_ := hT.2.2.1
    have hb := hT.2.2.2.2.2 t
    have hb2 := hb.2.1
    have hb3 := hb.2.2.1
    have hb5 := hb.2.2.2.1
    have hb6 := hb.2.2.2.2.1
    have hb7 := hb.2.2.2.2.2.1
    have hb8 := (hb.2.2.2.2.2.2.2 (by omega)).2.1
    have hw1 := hT.2.2.2.2.1 (Int.toNat (T 3 t))
    have hdm := dm_rng (T := T) (g := WT κ T) (t := t) (m := m) (b := 3228800) (by omega) (fun s hs => by have ha := arT_rng hT (t := t) (s := s) (m := m) hs; rw [hκ]; exact WT2_rng hT (by omega)) i (by omega)
    refine a_iload (j := 0) dX0_dearestBehind_6 rfl ?_
    refine a_iconst dX0_dearestBehind_8 ⟨by decide, by decide⟩ ?_
    refine a_icmp_ge (tgt := 58) dX0_dearestBehind_9 (by decide) (fun c9_1 => ?_) (fun c9_1 => ?_)
    · obtain rfl : i = 4 := (by omega)
      refine a_iload (j := 1) dX0_dearestBehind_58 rfl ?_
      refine a_ldc (z := 2147483647) dX0_dearestBehind_60 kwX0_80 ⟨by decide, by decide, by decide⟩ ?_
      refine a_icmp_ne (tgt := 70) dX0_dearestBehind_62 (by decide) (fun c62_2 => ?_) (fun c62_2 => ?_)
      · refine a_aload_n (j := 3) dX0_dearestBehind_70 rfl rfl (Nat.le_of_ble_eq_true rfl) ?_
        refine b_getp (a := 63) (p := 68) dX0_dearestBehind_71 fwX0_111 (by decide) rfl (by decide) rfl rfl ?_
        refine a_iload_n (j := 4) dX0_dearestBehind_74 rfl rfl ?_
        refine b_iaload (a := 68) (z := T 5 t) t dX0_dearestBehind_75 (by decide) rfl rfl (by omega) (sp_nil rfl _) (hTT.2.2.1 t (by omega)).2.2.2.1 (fun r75_3 => ?_)
        refine a_iload (j := 1) dX0_dearestBehind_76 rfl ?_
        refine a_iadd (z := ((T 5 t) + (dmT T (WT κ T) t m 4))) dX0_dearestBehind_78 (w_ok (by omega) (by omega)) ?_
        exact a_iret dX0_dearestBehind_79 rfl (post_v kQ (by unfold bhT; rw [if_pos (by omega), if_neg (by omega)]))
      · refine a_ldc (z := 2147483647) dX0_dearestBehind_65 kwX0_80 ⟨by decide, by decide, by decide⟩ ?_
        refine a_goto (tgt := 79) dX0_dearestBehind_67 (by decide) ?_
        exact a_iret dX0_dearestBehind_79 rfl (post_v kQ (by unfold bhT; rw [if_pos (by omega), if_pos (by omega)]))
    · have hs9 := hb.2.2.2.2.2.2.1 i (by omega)
      have har := arT_rng hT (t := t) (s := i) (m := m) (by omega)
      refine a_aload_n (j := 3) dX0_dearestBehind_12 rfl rfl (Nat.le_of_ble_eq_true rfl) ?_
      refine b_getp (a := 63) (p := 71) dX0_dearestBehind_13 fwX0_93 (by decide) rfl (by decide) rfl rfl ?_
      refine a_iload_n (j := 4) dX0_dearestBehind_16 rfl rfl ?_
      refine a_iconst dX0_dearestBehind_17 ⟨by decide, by decide⟩ ?_
      refine a_imul (z := (((t : Nat) : Int) * 4)) dX0_dearestBehind_18 (w_ok (by omega) (by omega)) ?_
      refine a_iload (j := 0) dX0_dearestBehind_19 rfl ?_
      refine a_iadd (z := ((((t : Nat) : Int) * 4) + ((i : Nat) : Int))) dX0_dearestBehind_21 (w_ok (by omega) (by omega)) ?_
      refine b_iaload (a := 71) (z := T 8 (4 * t + i)) (4 * t + i) dX0_dearestBehind_22 (by decide) rfl (by omega) (by omega) (sp_nil rfl _) ((hTT.2.2.1 t (by omega)).2.2.2.2.2.2 i (by omega)).1 (fun r22_4 => ?_)
      refine a_if_eq (tgt := 52) dX0_dearestBehind_23 (by decide) (fun c23_5 => ?_) (fun c23_5 => ?_)
      · refine a_iinc (j := 0) (z' := ((i + 1 : Nat) : Int)) (lv' := [(5, vI ((i + 1 : Nat) : Int)), (4, vI (dmT T (WT κ T) t m i)), (0, vA 82), (1, vA 63), (2, vI ((t : Nat) : Int)), (3, vI m)]) dX0_dearestBehind_52 rfl (w_okN (by omega) (by omega) (by omega)) (by decide) rfl ?_
        refine a_goto (tgt := 6) dX0_dearestBehind_55 (by decide) ?_
        have e : dmT T (WT κ T) t m (i + 1) = (dmT T (WT κ T) t m i) := by rw [dm_s, if_pos (by omega)]
        have q := ih (i + 1) (by omega) (by omega)
        rw [e] at q
        exact a_lv (lv' := [(5, vI (((i + 1) : Nat) : Int)), (4, vI (dmT T (WT κ T) t m i)), (0, vA 82), (1, vA 63), (2, vI ((t : Nat) : Int)), (3, vI m)]) (by intro q hq; simp only [List.mem_cons, List.not_mem_nil, or_false] at hq ⊢; rcases hq with rfl | rfl | rfl | rfl | rfl | rfl <;> simp) q
      · refine a_iload (j := 1) dX0_dearestBehind_26 rfl ?_
        refine a_aload_n (j := 2) dX0_dearestBehind_28 rfl rfl (Nat.le_of_ble_eq_true rfl) ?_
        refine a_aload_n (j := 3) dX0_dearestBehind_29 rfl rfl (Nat.le_of_ble_eq_true rfl) ?_
        refine a_aload_n (j := 3) dX0_dearestBehind_30 rfl rfl (Nat.le_of_ble_eq_true rfl) ?_
        refine b_getp (a := 63) (p := 66) dX0_dearestBehind_31 fwX0_96 (by decide) rfl (by decide) rfl rfl ?_
        refine a_iload_n (j := 4) dX0_dearestBehind_34 rfl rfl ?_
        refine b_iaload (a := 66) (z := T 3 t) t dX0_dearestBehind_35 (by decide) rfl rfl (by omega) (sp_nil rfl _) (hTT.2.2.1 t (by omega)).2.1 (fun r35_6 => ?_)
        refine a_aload_n (j := 3) dX0_dearestBehind_36 rfl rfl (Nat.le_of_ble_eq_true rfl) ?_
        refine a_iload_n (j := 4) dX0_dearestBehind_37 rfl rfl ?_
        refine a_iload (j := 0) dX0_dearestBehind_38 rfl ?_
        refine a_iload_n (j := 5) dX0_dearestBehind_40 rfl rfl ?_
        refine b_callV (d' := d - 1) (mc' := 0) (ms' := 0) (mc1 := 0) (ms1 := 0) (st := [vI (T 3 t), vA 63, vA 82, vI (dmT T (WT κ T) t m i)]) (b := 63) [vI ((t : Nat) : Int), vI ((i : Nat) : Int), vI m] dX0_dearestBehind_41 mwX5_arrival lkX0_99 (by decide) rfl rc_X5 rfl (Nat.le_of_ble_eq_true rfl) (by omega) rfl rfl (c_X5_arrival (v1 := (T 9 (4 * t + i))) (v2 := (T 4 t)) (v3 := (T 3 t)) (v4 := (T 1 (Int.toNat (T 3 t)))) (v5 := (T 0 0)) (by omega)  ((congrArg (h 72) (show (Int.toNat ((((t : Nat) : Int) * 4) + ((i : Nat) : Int))) = (4 * t + i) by omega)).trans ((hTT.2.2.1 t (by omega)).2.2.2.2.2.2 i (by omega)).2) ((congrArg (h 67) (show (Int.toNat ((t : Nat) : Int)) = t by omega)).trans (hTT.2.2.1 t (by omega)).2.2.1) ((congrArg (h 66) (show (Int.toNat ((t : Nat) : Int)) = t by omega)).trans (hTT.2.2.1 t (by omega)).2.1) (hTT.2.1 _ (by omega)) hTT.1.1 (show 0 ≤ ((t : Nat) : Int) ∧ ((t : Nat) : Int) ≤ 11 by omega) (show 0 ≤ ((i : Nat) : Int) ∧ ((i : Nat) : Int) ≤ 3 by omega) (show 0 ≤ (T 9 (4 * t + i)) ∧ (T 9 (4 * t + i)) ≤ 3000 by omega) (show 1 ≤ (T 4 t) ∧ (T 4 t) ≤ 600 by omega) (show 0 ≤ (T 3 t) ∧ (T 3 t) ≤ 5 by omega) (show 0 ≤ (T 1 (Int.toNat (T 3 t))) ∧ (T 1 (Int.toNat (T 3 t))) ≤ 99 by omega) (show 0 ≤ m ∧ m ≤ 5000 by omega) ?_)
        show Aj γ mX0_dearestBehind d 0 0 Post 44 [(5, vI ((i : Nat) : Int)), (4, vI (dmT T (WT κ T) t m i)), (0, vA 82), (1, vA 63), (2, vI ((t : Nat) : Int)), (3, vI m)] [vI (arrF (T 9 (4 * t + i)) m (T 4 t) (T 3 t) (T 0 0) (T 1 (Int.toNat (T 3 t)))), vI (T 3 t), vA 63, vA 82, vI (dmT T (WT κ T) t m i)] (mk h τ)
        show Aj γ mX0_dearestBehind d 0 0 Post 44 [(5, vI ((i : Nat) : Int)), (4, vI (dmT T (WT κ T) t m i)), (0, vA 82), (1, vA 63), (2, vI ((t : Nat) : Int)), (3, vI m)] [vI (arT T t i m), vI (T 3 t), vA 63, vA 82, vI (dmT T (WT κ T) t m i)] (mk h τ)
        refine b_callV (d' := d - 1) (mc' := 0) (ms' := 0) (mc1 := 0) (ms1 := 0) (st := [vI (dmT T (WT κ T) t m i)]) (b := 82) [vA 63, vI (T 3 t), vI (arT T t i m)] dX0_dearestBehind_44 mwX0_worthAt lkX0_103 (by decide) rfl rc_X0 rfl (Nat.le_of_ble_eq_true rfl) (by omega) rfl rfl (c_X0_worthAt_82 (κ := κ) (T := T) (s := T 3 t) (m := (arT T t i m)) (by omega) hκ0 hκ hT hTT (by omega) (by omega) (fun h1 h2 => hC _ _ (by omega) (by omega) h1 (by omega) (by omega) (Int.le_trans (plT_mono (by omega)) hP)) ?_)
        show Aj γ mX0_dearestBehind d 0 0 Post 47 [(5, vI ((i : Nat) : Int)), (4, vI (dmT T (WT κ T) t m i)), (0, vA 82), (1, vA 63), (2, vI ((t : Nat) : Int)), (3, vI m)] [vI (WT κ T (T 3 t) (arT T t i m)), vI (dmT T (WT κ T) t m i)] (mk h τ)
        refine a_mmax (z := (if (dmT T (WT κ T) t m i) < (WT κ T (T 3 t) (arT T t i m)) then (WT κ T (T 3 t) (arT T t i m)) else (dmT T (WT κ T) t m i))) dX0_dearestBehind_47 mlX0_106 (Nat.le_of_ble_eq_true rfl) (by omega) rfl ?_
        refine a_istore (lv' := [(4, vI (if (dmT T (WT κ T) t m i) < (WT κ T (T 3 t) (arT T t i m)) then (WT κ T (T 3 t) (arT T t i m)) else (dmT T (WT κ T) t m i))), (5, vI ((i : Nat) : Int)), (0, vA 82), (1, vA 63), (2, vI ((t : Nat) : Int)), (3, vI m)]) dX0_dearestBehind_50 (by decide) rfl ?_
        refine a_iinc (j := 1) (z' := ((i + 1 : Nat) : Int)) (lv' := [(5, vI ((i + 1 : Nat) : Int)), (4, vI (if (dmT T (WT κ T) t m i) < (WT κ T (T 3 t) (arT T t i m)) then (WT κ T (T 3 t) (arT T t i m)) else (dmT T (WT κ T) t m i))), (0, vA 82), (1, vA 63), (2, vI ((t : Nat) : Int)), (3, vI m)]) dX0_dearestBehind_52 rfl (w_okN (by omega) (by omega) (by omega)) (by decide) rfl ?_
        refine a_goto (tgt := 6) dX0_dearestBehind_55 (by decide) ?_
        have e : dmT T (WT κ T) t m (i + 1) = (if (dmT T (WT κ T) t m i) < (WT κ T (T 3 t) (arT T t i m)) then (WT κ T (T 3 t) (arT T t i m)) else (dmT T (WT κ T) t m i)) := by rw [dm_s, if_neg (by omega)]; rfl
        have q := ih (i + 1) (by omega) (by omega)
        rw [e] at q
        exact a_lv (lv' := [(5, vI (((i + 1) : Nat) : Int)), (4, vI (if (dmT T (WT κ T) t m i) < (WT κ T (T 3 t) (arT T t i m)) then (WT κ T (T 3 t) (arT T t i m)) else (dmT T (WT κ T) t m i))), (0, vA 82), (1, vA 63), (2, vI ((t : Nat) : Int)), (3, vI m)]) (by intro q hq; simp only [List.mem_cons, List.not_mem_nil, or_false] at hq ⊢; rcases hq with rfl | rfl | rfl | rfl | rfl | rfl <;> simp) q
theorem c_X0_dearestBehind_82 {γ : GT} {d : Nat} {κ : Int} {T : Nat → Nat → Int} {t : Nat} {m P : Int} {h : Nat → Nat → Int} {τ : List AC} {Post : Option AV → List AC → Prop} (hd : 2 ≤ d) (hκ0 : h 82 0 = κ) (hκ : κ = 2) (hT : tOK T) (hTT : TT h T) (ht : (t : Int) < T 0 2) (hm : 0 ≤ m ∧ m ≤ 1589) (hC : CHp h 82 κ T P) (hP : plT T (m + 1) ≤ P) (kQ : Post (some (vI (bhT κ T (WT κ T) t m))) (mk h τ)) : Cj γ mX0_dearestBehind d 0 0 [vA 82, vA 63, vI ((t : Nat) : Int), vI m] (mk h τ) Post := by
  refine c_of (by decide) (Nat.le_of_ble_eq_true rfl) ?_
  show Aj γ mX0_dearestBehind d 0 0 Post 0 [(0, vA 82), (1, vA 63), (2, vI ((t : Nat) : Int)), (3, vI m)] [] (mk h τ)
  refine a_iconst dX0_dearestBehind_0 ⟨by decide, by decide⟩ ?_
  refine a_istore (lv' := [(4, vI 0), (0, vA 82), (1, vA 63), (2, vI ((t : Nat) : Int)), (3, vI m)]) dX0_dearestBehind_1 (by decide) rfl ?_
  refine a_iconst dX0_dearestBehind_3 ⟨by decide, by decide⟩ ?_
  refine a_istore (lv' := [(5, vI 0), (4, vI 0), (0, vA 82), (1, vA 63), (2, vI ((t : Nat) : Int)), (3, vI m)]) dX0_dearestBehind_4 (by decide) rfl ?_
  exact a_lv (lv' := [(5, vI ((0 : Nat) : Int)), (4, vI 0), (0, vA 82), (1, vA 63), (2, vI ((t : Nat) : Int)), (3, vI m)]) (by intro q hq; simp only [List.mem_cons, List.not_mem_nil, or_false] at hq ⊢; rcases hq with rfl | rfl | rfl | rfl | rfl | rfl <;> simp) (l_db_82 hd hκ0 hκ hT hTT ht hm hC hP kQ 5 0 (by omega) (by omega))
set_option maxHeartbeats 8000000 in
theorem l_bt_82 {γ : GT} {d : Nat} {κ : Int} {T : Nat → Nat → Int} {n : Nat} {s m P : Int} {h : Nat → Nat → Int} {τ : List AC} {Post : Option AV → List AC → Prop} (hd : 3 ≤ d) (hκ0 : h 82 0 = κ) (hκ : κ = 2) (hT : tOK T) (hTT : TT h T) (hs : 0 ≤ s ∧ s ≤ 5) (hm : 0 ≤ m ∧ m ≤ 5000) (hC : CHp h 82 κ T P) (hP : m ≤ 1589 → plT T (m + 1) ≤ P) (hn : T 0 2 = ((n : Nat) : Int)) (kQ : ∀ h', Fr [82] h h' → (∀ k, k ≠ 3 → h' 82 k = h 82 k) → (¬ s = T 0 0 → h' 82 3 = (bsT κ T (WT κ T) s m (Int.toNat (T 0 2))).2) → Post (some (vI (hsF (TKk κ T s m)))) (mk h' τ)) :
    ∀ (f i : Nat) (h1 : Nat → Nat → Int), i ≤ n → n < i + f → Fr [82] h h1 → (h1 82 3 = (bsT κ T (WT κ T) s m i).2) → (∀ k, k ≠ 3 → h1 82 k = h 82 k) → (¬ s = T 0 0 ∨ i = 0) → Aj γ mX0_bestTrain d 0 0 Post 15 [(5, vI ((i : Nat) : Int)), (4, vI (hsF (bsT κ T (WT κ T) s m i).1)), (0, vA 82), (1, vA 63), (2, vI s), (3, vI m)] [] (mk h1 τ) := by
  intro f
  induction f with
  | zero => intro i h1  h1_ h2_; omega
  | succ f ih =>
    intro i h1  h1_ h2_ hF ib iq ig
    have h2_ := hT.2.2.1
    have hb := hT.2.2.2.2.2 i
    have hb6 := hb.2.2.2.2.1
    have hb7 := hb.2.2.2.2.2.1
    have hbr := bsT_rng κ T (WT κ T) s m i
    have hhs := hsF_c (bsT κ T (WT κ T) s m i).1
    have hls := lsT_rng hT i
    have hlq : lsT T i = T 6 i + T 7 i := rfl
    refine a_iload (j := 0) dX0_bestTrain_15 rfl ?_
    refine a_aload_n (j := 3) dX0_bestTrain_17 rfl rfl (Nat.le_of_ble_eq_true rfl) ?_
    refine b_get (a := 63) (z := ((n : Nat) : Int)) (t := 0) dX0_bestTrain_18 fwX0_43 (by decide) rfl (by decide) rfl rfl ((Fr_v hF (by decide)).trans (hTT.1.2.2.trans hn)) ?_
    refine a_icmp_ge (tgt := 118) dX0_bestTrain_21 (by decide) (fun c21_1 => ?_) (fun c21_1 => ?_)
    · refine a_iload (j := 1) dX0_bestTrain_118 rfl ?_
      exact a_iret dX0_bestTrain_120 rfl (by
        by_cases cg : s = T 0 0
        · obtain rfl : i = 0 := (by omega)
          exact post_v (kQ _ hF iq (fun hg => absurd cg hg)) (by unfold TKk; rw [if_pos cg]; rfl)
        · obtain rfl : i = n := (by omega)
          exact post_v (kQ _ hF iq (fun hg => by rw [show Int.toNat (T 0 2) = i by omega]; exact ib)) (by unfold TKk; rw [if_neg cg, show Int.toNat (T 0 2) = i by omega]))
    · refine a_iload_n (j := 4) dX0_bestTrain_24 rfl rfl ?_
      refine a_aload_n (j := 3) dX0_bestTrain_25 rfl rfl (Nat.le_of_ble_eq_true rfl) ?_
      refine b_get (a := 63) (z := T 0 0) (t := 0) dX0_bestTrain_26 fwX0_67 (by decide) rfl (by decide) rfl rfl ((Fr_v hF (by decide)).trans hTT.1.1) ?_
      refine a_icmp_eq (tgt := 118) dX0_bestTrain_29 (by decide) (fun c29_2 => ?_) (fun c29_2 => ?_)
      · refine a_iload (j := 1) dX0_bestTrain_118 rfl ?_
        exact a_iret dX0_bestTrain_120 rfl (by
        by_cases cg : s = T 0 0
        · obtain rfl : i = 0 := (by omega)
          exact post_v (kQ _ hF iq (fun hg => absurd cg hg)) (by unfold TKk; rw [if_pos cg]; rfl)
        · obtain rfl : i = n := (by omega)
          exact post_v (kQ _ hF iq (fun hg => by rw [show Int.toNat (T 0 2) = i by omega]; exact ib)) (by unfold TKk; rw [if_neg cg, show Int.toNat (T 0 2) = i by omega]))
      · refine a_aload_n (j := 3) dX0_bestTrain_32 rfl rfl (Nat.le_of_ble_eq_true rfl) ?_
        refine b_getp (a := 63) (p := 65) dX0_bestTrain_33 fwX0_57 (by decide) rfl (by decide) rfl rfl ?_
        refine a_iload (j := 0) dX0_bestTrain_36 rfl ?_
        refine b_iaload (a := 65) (z := T 2 i) i dX0_bestTrain_38 (by decide) rfl rfl (by omega) (sp_nil rfl _) ((Fr_v hF (by decide)).trans (hTT.2.2.1 i (by omega)).1) (fun r38_3 => ?_)
        refine a_iload_n (j := 4) dX0_bestTrain_39 rfl rfl ?_
        refine a_icmp_ne (tgt := 112) dX0_bestTrain_40 (by decide) (fun c40_4 => ?_) (fun c40_4 => ?_)
        · refine a_iinc (j := 0) (z' := ((i + 1 : Nat) : Int)) (lv' := [(5, vI ((i + 1 : Nat) : Int)), (4, vI (hsF (bsT κ T (WT κ T) s m i).1)), (0, vA 82), (1, vA 63), (2, vI s), (3, vI m)]) dX0_bestTrain_112 rfl (w_okN (by omega) (by omega) (by omega)) (by decide) rfl ?_
          refine a_goto (tgt := 15) dX0_bestTrain_115 (by decide) ?_
          have e0 : bsT κ T (WT κ T) s m (i + 1) = bsT κ T (WT κ T) s m i := by
            rw [bsT_s]
            first | (rw [if_neg (by omega)]; done) | (rw [if_pos ⟨by omega, by omega⟩, if_neg (by omega)])
          have e : hsF (bsT κ T (WT κ T) s m (i + 1)).1 = (hsF (bsT κ T (WT κ T) s m i).1) := (by rw [e0])
          have q := ih (i + 1) h1 (by omega) (by omega) (Fr_m (by decide) hF) (by rw [e0]; exact ib) iq (by omega)
          rw [e] at q
          exact a_lv (lv' := [(5, vI (((i + 1) : Nat) : Int)), (4, vI (hsF (bsT κ T (WT κ T) s m i).1)), (0, vA 82), (1, vA 63), (2, vI s), (3, vI m)]) (by intro q hq; simp only [List.mem_cons, List.not_mem_nil, or_false] at hq ⊢; rcases hq with rfl | rfl | rfl | rfl | rfl | rfl <;> simp) q
        · refine a_aload_n (j := 3) dX0_bestTrain_43 rfl rfl (Nat.le_of_ble_eq_true rfl) ?_
          refine a_iload (j := 0) dX0_bestTrain_44 rfl ?_
          refine b_callV (d' := d - 1) (mc' := 0) (ms' := 0) (mc1 := 0) (ms1 := 0) (st := []) (b := 63) [vI ((i : Nat) : Int)] dX0_bestTrain_46 mwX5_lastMinute lkX0_49 (by decide) rfl rc_X5 rfl (Nat.le_of_ble_eq_true rfl) (by omega) rfl rfl (c_X5_lastMinute (v1 := (T 6 i)) (v2 := (T 7 i)) (by omega)  ((Fr_v hF (by decide)).trans ((congrArg (h 69) (show (Int.toNat ((i : Nat) : Int)) = i by omega)).trans (hTT.2.2.1 i (by omega)).2.2.2.2.1)) ((Fr_v hF (by decide)).trans ((congrArg (h 70) (show (Int.toNat ((i : Nat) : Int)) = i by omega)).trans (hTT.2.2.1 i (by omega)).2.2.2.2.2.1)) (show 0 ≤ ((i : Nat) : Int) ∧ ((i : Nat) : Int) ≤ 11 by omega) (show 0 ≤ (T 6 i) ∧ (T 6 i) ≤ 1559 by omega) (show 0 ≤ (T 7 i) ∧ (T 7 i) ≤ 30 by omega) ?_)
          show Aj γ mX0_bestTrain d 0 0 Post 49 [(5, vI ((i : Nat) : Int)), (4, vI (hsF (bsT κ T (WT κ T) s m i).1)), (0, vA 82), (1, vA 63), (2, vI s), (3, vI m)] [vI ((T 6 i) + (T 7 i))] (mk h1 τ)
          refine a_iload_n (j := 5) dX0_bestTrain_49 rfl rfl ?_
          refine a_icmp_lt (tgt := 112) dX0_bestTrain_50 (by decide) (fun c50_5 => ?_) (fun c50_5 => ?_)
          · refine a_iinc (j := 0) (z' := ((i + 1 : Nat) : Int)) (lv' := [(5, vI ((i + 1 : Nat) : Int)), (4, vI (hsF (bsT κ T (WT κ T) s m i).1)), (0, vA 82), (1, vA 63), (2, vI s), (3, vI m)]) dX0_bestTrain_112 rfl (w_okN (by omega) (by omega) (by omega)) (by decide) rfl ?_
            refine a_goto (tgt := 15) dX0_bestTrain_115 (by decide) ?_
            have e0 : bsT κ T (WT κ T) s m (i + 1) = bsT κ T (WT κ T) s m i := by
              rw [bsT_s]
              first | (rw [if_neg (by omega)]; done) | (rw [if_pos ⟨by omega, by omega⟩, if_neg (by omega)])
            have e : hsF (bsT κ T (WT κ T) s m (i + 1)).1 = (hsF (bsT κ T (WT κ T) s m i).1) := (by rw [e0])
            have q := ih (i + 1) h1 (by omega) (by omega) (Fr_m (by decide) hF) (by rw [e0]; exact ib) iq (by omega)
            rw [e] at q
            exact a_lv (lv' := [(5, vI (((i + 1) : Nat) : Int)), (4, vI (hsF (bsT κ T (WT κ T) s m i).1)), (0, vA 82), (1, vA 63), (2, vI s), (3, vI m)]) (by intro q hq; simp only [List.mem_cons, List.not_mem_nil, or_false] at hq ⊢; rcases hq with rfl | rfl | rfl | rfl | rfl | rfl <;> simp) q
          · refine a_aload_n (j := 2) dX0_bestTrain_53 rfl rfl (Nat.le_of_ble_eq_true rfl) ?_
            refine b_get (a := 82) (z := κ) (t := 0) dX0_bestTrain_54 fwX0_19 (by decide) rfl (by decide) rfl rfl ((iq 0 (by decide)).trans hκ0) ?_
            refine a_iconst dX0_bestTrain_57 ⟨by decide, by decide⟩ ?_
            refine a_icmp_ne (tgt := 72) dX0_bestTrain_58 (by decide) (fun c58_6 => absurd c58_6 (by omega)) (fun c58_6 => ?_)
            refine a_aload_n (j := 2) dX0_bestTrain_61 rfl rfl (Nat.le_of_ble_eq_true rfl) ?_
            refine a_aload_n (j := 3) dX0_bestTrain_62 rfl rfl (Nat.le_of_ble_eq_true rfl) ?_
            refine a_iload (j := 0) dX0_bestTrain_63 rfl ?_
            refine a_iload_n (j := 5) dX0_bestTrain_65 rfl rfl ?_
            refine b_callV (d' := d - 1) (mc' := 0) (ms' := 0) (mc1 := 0) (ms1 := 0) (st := []) (b := 82) [vA 63, vI ((i : Nat) : Int), vI m] dX0_bestTrain_66 mwX0_dearestBehind lkX0_83 (by decide) rfl rc_X0 rfl (Nat.le_of_ble_eq_true rfl) (by omega) rfl rfl (c_X0_dearestBehind_82 (κ := κ) (T := T) (t := i) (m := m) (P := P) (by omega) ((iq 0 (by decide)).trans hκ0) hκ hT (TT_fr (by decide) hF hTT) (by omega) (by omega) (CHp_fr (hF 83 (by decide)) hC) (hP (by omega)) ?_)
            show Aj γ mX0_bestTrain d 0 0 Post 69 [(5, vI ((i : Nat) : Int)), (4, vI (hsF (bsT κ T (WT κ T) s m i).1)), (0, vA 82), (1, vA 63), (2, vI s), (3, vI m)] [vI (bhT κ T (WT κ T) i m)] (mk h1 τ)
            refine a_goto (tgt := 80) dX0_bestTrain_69 (by decide) ?_
            refine a_istore (lv' := [(6, vI (bhT κ T (WT κ T) i m)), (5, vI ((i : Nat) : Int)), (4, vI (hsF (bsT κ T (WT κ T) s m i).1)), (0, vA 82), (1, vA 63), (2, vI s), (3, vI m)]) dX0_bestTrain_80 (by decide) rfl ?_
            refine a_iload (j := 2) dX0_bestTrain_82 rfl ?_
            refine a_ldc (z := (-1000000005)) dX0_bestTrain_84 kwX0_82 ⟨by decide, by decide, by decide⟩ ?_
            refine a_icmp_eq (tgt := 102) dX0_bestTrain_86 (by decide) (fun c86_7 => ?_) (fun c86_7 => ?_)
            · refine a_iload (j := 1) dX0_bestTrain_102 rfl ?_
              refine a_istore (lv' := [(4, vI ((i : Nat) : Int)), (6, vI (bhT κ T (WT κ T) i m)), (5, vI ((i : Nat) : Int)), (0, vA 82), (1, vA 63), (2, vI s), (3, vI m)]) dX0_bestTrain_104 (by decide) rfl ?_
              refine a_aload_n (j := 3) dX0_bestTrain_106 rfl rfl (Nat.le_of_ble_eq_true rfl) ?_
              refine a_iload (j := 1) dX0_bestTrain_107 rfl ?_
              refine b_put (a := 82) (v := vI (bhT κ T (WT κ T) i m)) dX0_bestTrain_109 pwX0_64 (fun h => nomatch h) (by decide) rfl (by decide) rfl rfl (fit_int _) ?_
              show Aj γ mX0_bestTrain d 0 0 Post 112 [(4, vI ((i : Nat) : Int)), (6, vI (bhT κ T (WT κ T) i m)), (5, vI ((i : Nat) : Int)), (0, vA 82), (1, vA 63), (2, vI s), (3, vI m)] [] (mk (up2 h1 82 3 (bhT κ T (WT κ T) i m)) τ)
              refine a_iinc (j := 2) (z' := ((i + 1 : Nat) : Int)) (lv' := [(5, vI ((i + 1 : Nat) : Int)), (4, vI ((i : Nat) : Int)), (6, vI (bhT κ T (WT κ T) i m)), (0, vA 82), (1, vA 63), (2, vI s), (3, vI m)]) dX0_bestTrain_112 rfl (w_okN (by omega) (by omega) (by omega)) (by decide) rfl ?_
              refine a_goto (tgt := 15) dX0_bestTrain_115 (by decide) ?_
              have e0 : bsT κ T (WT κ T) s m (i + 1) = ((i : Int), bhT κ T (WT κ T) i m) := by
                rw [bsT_s, if_pos ⟨by omega, by omega⟩, if_pos (by omega)]
              have e : hsF (bsT κ T (WT κ T) s m (i + 1)).1 = ((i : Nat) : Int) := (by rw [e0]; unfold hsF; rw [if_neg (by omega)])
              have q := ih (i + 1) (up2 h1 82 3 (bhT κ T (WT κ T) i m)) (by omega) (by omega) (Fr_u (by decide) (Fr_m (by decide) hF)) (by rw [e0]; exact up2_at) (fun k hk => (up2_ne (by omega)).trans (iq k hk)) (by omega)
              rw [e] at q
              exact a_lv (lv' := [(5, vI (((i + 1) : Nat) : Int)), (4, vI ((i : Nat) : Int)), (0, vA 82), (1, vA 63), (2, vI s), (3, vI m)]) (by intro q hq; simp only [List.mem_cons, List.not_mem_nil, or_false] at hq ⊢; rcases hq with rfl | rfl | rfl | rfl | rfl | rfl <;> simp) q
            · refine a_aload_n (j := 3) dX0_bestTrain_89 rfl rfl (Nat.le_of_ble_eq_true rfl) ?_
              refine a_iload (j := 0) dX0_bestTrain_90 rfl ?_
              refine a_aload_n (j := 3) dX0_bestTrain_92 rfl rfl (Nat.le_of_ble_eq_true rfl) ?_
              refine b_get (a := 82) (z := (bsT κ T (WT κ T) s m i).2) (t := 0) dX0_bestTrain_93 fwX0_64 (by decide) rfl (by decide) rfl rfl ib ?_
              refine b_callV (d' := d - 1) (mc' := 0) (ms' := 0) (mc1 := 0) (ms1 := 0) (st := []) (b := 82) [vI (bhT κ T (WT κ T) i m), vI ((bsT κ T (WT κ T) s m i).2)] dX0_bestTrain_96 mwX0_isBetter lkX0_89 (by decide) rfl rc_X0 rfl (Nat.le_of_ble_eq_true rfl) (by omega) rfl rfl (c_X0_isBetter (v1 := κ) (by omega) (Or.inr (Or.inr rfl)) ((iq 0 (by decide)).trans hκ0)  (fun t96_8 => ?_) (fun t96_8 => ?_))
              · have t96_8 : (κ = 1 ∧ ((bsT κ T (WT κ T) s m i).2) < (bhT κ T (WT κ T) i m)) ∨ (¬ κ = 1 ∧ (bhT κ T (WT κ T) i m) < ((bsT κ T (WT κ T) s m i).2)) := t96_8
                show Aj γ mX0_bestTrain d 0 0 Post 99 [(6, vI (bhT κ T (WT κ T) i m)), (5, vI ((i : Nat) : Int)), (4, vI (hsF (bsT κ T (WT κ T) s m i).1)), (0, vA 82), (1, vA 63), (2, vI s), (3, vI m)] [vI 1] (mk h1 τ)
                refine a_if_eq (tgt := 112) dX0_bestTrain_99 (by decide) (fun c => absurd c (by decide)) (fun _ => ?_)
                refine a_iload (j := 1) dX0_bestTrain_102 rfl ?_
                refine a_istore (lv' := [(4, vI ((i : Nat) : Int)), (6, vI (bhT κ T (WT κ T) i m)), (5, vI ((i : Nat) : Int)), (0, vA 82), (1, vA 63), (2, vI s), (3, vI m)]) dX0_bestTrain_104 (by decide) rfl ?_
                refine a_aload_n (j := 3) dX0_bestTrain_106 rfl rfl (Nat.le_of_ble_eq_true rfl) ?_
                refine a_iload (j := 1) dX0_bestTrain_107 rfl ?_
                refine b_put (a := 82) (v := vI (bhT κ T (WT κ T) i m)) dX0_bestTrain_109 pwX0_64 (fun h => nomatch h) (by decide) rfl (by decide) rfl rfl (fit_int _) ?_
                show Aj γ mX0_bestTrain d 0 0 Post 112 [(4, vI ((i : Nat) : Int)), (6, vI (bhT κ T (WT κ T) i m)), (5, vI ((i : Nat) : Int)), (0, vA 82), (1, vA 63), (2, vI s), (3, vI m)] [] (mk (up2 h1 82 3 (bhT κ T (WT κ T) i m)) τ)
                refine a_iinc (j := 2) (z' := ((i + 1 : Nat) : Int)) (lv' := [(5, vI ((i + 1 : Nat) : Int)), (4, vI ((i : Nat) : Int)), (6, vI (bhT κ T (WT κ T) i m)), (0, vA 82), (1, vA 63), (2, vI s), (3, vI m)]) dX0_bestTrain_112 rfl (w_okN (by omega) (by omega) (by omega)) (by decide) rfl ?_
                refine a_goto (tgt := 15) dX0_bestTrain_115 (by decide) ?_
                have e0 : bsT κ T (WT κ T) s m (i + 1) = ((i : Int), bhT κ T (WT κ T) i m) := by
                  rw [bsT_s, if_pos ⟨by omega, by omega⟩, if_pos (by omega)]
                have e : hsF (bsT κ T (WT κ T) s m (i + 1)).1 = ((i : Nat) : Int) := (by rw [e0]; unfold hsF; rw [if_neg (by omega)])
                have q := ih (i + 1) (up2 h1 82 3 (bhT κ T (WT κ T) i m)) (by omega) (by omega) (Fr_u (by decide) (Fr_m (by decide) hF)) (by rw [e0]; exact up2_at) (fun k hk => (up2_ne (by omega)).trans (iq k hk)) (by omega)
                rw [e] at q
                exact a_lv (lv' := [(5, vI (((i + 1) : Nat) : Int)), (4, vI ((i : Nat) : Int)), (0, vA 82), (1, vA 63), (2, vI s), (3, vI m)]) (by intro q hq; simp only [List.mem_cons, List.not_mem_nil, or_false] at hq ⊢; rcases hq with rfl | rfl | rfl | rfl | rfl | rfl <;> simp) q
              · have t96_8 : ¬ ((κ = 1 ∧ ((bsT κ T (WT κ T) s m i).2) < (bhT κ T (WT κ T) i m)) ∨ (¬ κ = 1 ∧ (bhT κ T (WT κ T) i m) < ((bsT κ T (WT κ T) s m i).2))) := t96_8
                show Aj γ mX0_bestTrain d 0 0 Post 99 [(6, vI (bhT κ T (WT κ T) i m)), (5, vI ((i : Nat) : Int)), (4, vI (hsF (bsT κ T (WT κ T) s m i).1)), (0, vA 82), (1, vA 63), (2, vI s), (3, vI m)] [vI 0] (mk h1 τ)
                refine a_if_eq (tgt := 112) dX0_bestTrain_99 (by decide) (fun _ => ?_) (fun c => absurd c (by decide))
                refine a_iinc (j := 1) (z' := ((i + 1 : Nat) : Int)) (lv' := [(5, vI ((i + 1 : Nat) : Int)), (6, vI (bhT κ T (WT κ T) i m)), (4, vI (hsF (bsT κ T (WT κ T) s m i).1)), (0, vA 82), (1, vA 63), (2, vI s), (3, vI m)]) dX0_bestTrain_112 rfl (w_okN (by omega) (by omega) (by omega)) (by decide) rfl ?_
                refine a_goto (tgt := 15) dX0_bestTrain_115 (by decide) ?_
                have e0 : bsT κ T (WT κ T) s m (i + 1) = bsT κ T (WT κ T) s m i := by
                  rw [bsT_s]
                  first | (rw [if_neg (by omega)]; done) | (rw [if_pos ⟨by omega, by omega⟩, if_neg (by omega)])
                have e : hsF (bsT κ T (WT κ T) s m (i + 1)).1 = (hsF (bsT κ T (WT κ T) s m i).1) := (by rw [e0])
                have q := ih (i + 1) h1 (by omega) (by omega) (Fr_m (by decide) hF) (by rw [e0]; exact ib) iq (by omega)
                rw [e] at q
                exact a_lv (lv' := [(5, vI (((i + 1) : Nat) : Int)), (4, vI (hsF (bsT κ T (WT κ T) s m i).1)), (0, vA 82), (1, vA 63), (2, vI s), (3, vI m)]) (by intro q hq; simp only [List.mem_cons, List.not_mem_nil, or_false] at hq ⊢; rcases hq with rfl | rfl | rfl | rfl | rfl | rfl <;> simp) q
theorem c_X0_bestTrain_82 {γ : GT} {d : Nat} {κ : Int} {T : Nat → Nat → Int} {s m P : Int} {h : Nat → Nat → Int} {τ : List AC} {Post : Option AV → List AC → Prop} (hd : 3 ≤ d) (hκ0 : h 82 0 = κ) (hκ : κ = 2) (hT : tOK T) (hTT : TT h T) (hs : 0 ≤ s ∧ s ≤ 5) (hm : 0 ≤ m ∧ m ≤ 5000) (hC : CHp h 82 κ T P) (hP : m ≤ 1589 → plT T (m + 1) ≤ P) (kQ : ∀ h', Fr [82] h h' → (∀ k, k ≠ 3 → h' 82 k = h 82 k) → (¬ s = T 0 0 → h' 82 3 = (bsT κ T (WT κ T) s m (Int.toNat (T 0 2))).2) → Post (some (vI (hsF (TKk κ T s m)))) (mk h' τ)) : Cj γ mX0_bestTrain d 0 0 [vA 82, vA 63, vI s, vI m] (mk h τ) Post := by
  have h2_ := hT.2.2.1
  obtain ⟨n, hn⟩ : ∃ n : Nat, T 0 2 = (n : Int) := ⟨Int.toNat (T 0 2), by omega⟩
  refine c_of (by decide) (Nat.le_of_ble_eq_true rfl) ?_
  show Aj γ mX0_bestTrain d 0 0 Post 0 [(0, vA 82), (1, vA 63), (2, vI s), (3, vI m)] [] (mk h τ)
  refine a_ldc (z := (-1000000005)) dX0_bestTrain_0 kwX0_82 ⟨by decide, by decide, by decide⟩ ?_
  refine a_istore (lv' := [(4, vI (-1000000005)), (0, vA 82), (1, vA 63), (2, vI s), (3, vI m)]) dX0_bestTrain_2 (by decide) rfl ?_
  refine a_aload_n (j := 1) dX0_bestTrain_4 rfl rfl (Nat.le_of_ble_eq_true rfl) ?_
  refine a_aload_n (j := 1) dX0_bestTrain_5 rfl rfl (Nat.le_of_ble_eq_true rfl) ?_
  refine b_callV (d' := d - 1) (mc' := 0) (ms' := 0) (mc1 := 0) (ms1 := 0) (st := [vA 82]) (b := 82) [] dX0_bestTrain_6 mwX0_worthOfNone lkX0_33 (by decide) rfl rc_X0 rfl (Nat.le_of_ble_eq_true rfl) (by omega) rfl rfl (c_X0_worthOfNone (v1 := κ) (by omega) (Or.inr (Or.inr rfl)) hκ0  ?_)
  show Aj γ mX0_bestTrain d 0 0 Post 9 [(4, vI (-1000000005)), (0, vA 82), (1, vA 63), (2, vI s), (3, vI m)] [vI (wonF κ), vA 82] (mk h τ)
  refine b_put (a := 82) (v := vI (wonF κ)) dX0_bestTrain_9 pwX0_64 (fun h => nomatch h) (by decide) rfl (by decide) rfl rfl (fit_int _) ?_
  show Aj γ mX0_bestTrain d 0 0 Post 12 [(4, vI (-1000000005)), (0, vA 82), (1, vA 63), (2, vI s), (3, vI m)] [] (mk (up2 h 82 3 (wonF κ)) τ)
  refine a_iconst dX0_bestTrain_12 ⟨by decide, by decide⟩ ?_
  refine a_istore (lv' := [(5, vI 0), (4, vI (-1000000005)), (0, vA 82), (1, vA 63), (2, vI s), (3, vI m)]) dX0_bestTrain_13 (by decide) rfl ?_
  have q := l_bt_82 (γ := γ) (d := d) (τ := τ) (Post := Post) (h := h) (P := P) (n := n) hd hκ0 hκ hT hTT hs hm hC hP hn kQ (n + 1) 0 (up2 h 82 3 (wonF κ)) (by omega) (by omega) (Fr_u (by decide) Fr_r) up2_at (fun k hk => up2_ne (by omega)) (by omega)
  exact a_lv (lv' := [(5, vI ((0 : Nat) : Int)), (4, vI (-1000000005)), (0, vA 82), (1, vA 63), (2, vI s), (3, vI m)]) (by intro q hq; simp only [List.mem_cons, List.not_mem_nil, or_false] at hq ⊢; rcases hq with rfl | rfl | rfl | rfl | rfl | rfl <;> simp) q
