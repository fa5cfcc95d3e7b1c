set_option maxHeartbeats 8000000 in
theorem l_gsI {γ : GT} {d : Nat} {T : Nat → Nat → Int} {a b : Nat} {W : Nat → Int} {r : Nat} {h : Nat → Nat → Int} {τ : List AC} {Post : Option AV → List AC → Prop} (hd : 2 ≤ d) (hT : tOK T) (hRT : RT h T) (ha : (a : Int) < T 0 2) (hb : (b : Int) < T 0 2) (hWb : ∀ s, s < 4 → 0 ≤ W s ∧ W s ≤ 2560000000000) (hW : ∀ s, s < 4 → h 131 s = W s) (hr : r < 4) (kE : ∀ h' x, Fr [132] h h' → h' 132 r = wyS T a b W r → (∀ q, q ≠ r → h' 132 q = h 132 q) → Aj γ mX9_goesOn d 0 0 Post 107 [(4, vI x), (3, vI ((r : Nat) : Int)), (0, vA 123), (1, vI ((a : Nat) : Int)), (2, vI ((b : Nat) : Int))] [] (mk h' τ)) :
    ∀ (f i : Nat) (h1 : Nat → Nat → Int), i ≤ 4 → 4 < i + f → Fr [132] h h1 → (h1 132 r = sm (fRT T a b W r) i) → (∀ q, q ≠ r → h1 132 q = h 132 q) → Aj γ mX9_goesOn d 0 0 Post 17 [(4, vI ((i : Nat) : Int)), (3, vI ((r : Nat) : Int)), (0, vA 123), (1, vI ((a : Nat) : Int)), (2, vI ((b : Nat) : Int))] [] (mk h1 τ) := by
  intro f
  induction f with
  | zero => intro i h1  h1_ h2_; omega
  | succ f ih =>
    intro i h1  h1_ h2_ hF ia io
    have h2_ := hT.2.2.1
    have h3_ := hT.2.2.2.1
    have qa := hT.2.2.2.2.2 a
    have qa3 := qa.2.1
    have qa4 := qa.2.2.1
    have qa5 := qa.2.2.2.1
    have qa6 := qa.2.2.2.2.1
    have qa7 := qa.2.2.2.2.2.1
    have qa8 := (qa.2.2.2.2.2.2.2 (by omega))
    have qaw := hT.2.2.2.2.1 (Int.toNat (T 3 a))
    have qb := hT.2.2.2.2.2 b
    have qb3 := qb.2.1
    have qb4 := qb.2.2.1
    have qb5 := qb.2.2.2.1
    have qb6 := qb.2.2.2.2.1
    have qb7 := qb.2.2.2.2.2.1
    have qb8 := (qb.2.2.2.2.2.2.2 (by omega))
    have qbw := hT.2.2.2.2.1 (Int.toNat (T 3 b))
    have qb9r := qb.2.2.2.2.2.2.1 r (by omega)
    have hsm := sm4_rng (f := fRT T a b W r) (B := 2560000000000 * 100) (fun s hs => fR_rng hT hr hWb hs) (i := i) (by omega)
    refine a_iload (j := 0) dX9_goesOn_17 rfl ?_
    refine a_iconst dX9_goesOn_19 ⟨by decide, by decide⟩ ?_
    refine a_icmp_ge (tgt := 107) dX9_goesOn_20 (by decide) (fun c20_1 => ?_) (fun c20_1 => ?_)
    · obtain rfl : i = 4 := (by omega)
      exact kE _ _ hF (ia.trans fRT_sm) io
    · have qa9i := qa.2.2.2.2.2.2.1 i (by omega)
      have hWi := hWb i (by omega)
      have hpr := mul_rng hWi qb9r.1
      refine a_aload_n (j := 2) dX9_goesOn_23 rfl rfl (Nat.le_of_ble_eq_true rfl) ?_
      refine a_iload_n (j := 3) dX9_goesOn_24 rfl rfl ?_
      refine a_iload (j := 0) dX9_goesOn_25 rfl ?_
      refine b_callV (d' := d - 1) (mc' := 0) (ms' := 0) (mc1 := 0) (ms1 := 0) (st := []) (b := 123) [vI ((a : Nat) : Int), vI ((i : Nat) : Int)] dX9_goesOn_27 mwX9_there lkX9_158 (by decide) rfl rc_X9 rfl (Nat.le_of_ble_eq_true rfl) (by omega) rfl rfl (c_X9_there (v1 := (T 6 a)) (v2 := (T 9 (4 * a + i) - T 6 a)) (v3 := (T 4 a)) (by omega)  ((Fr_v hF (by decide)).trans ((congrArg (h 128) (show (Int.toNat ((a : Nat) : Int)) = a by omega)).trans (hRT.2.2 a (by omega)).1)) ((Fr_v hF (by decide)).trans ((congrArg (h 130) (show (Int.toNat ((4 * ((a : Nat) : Int)) + ((i : Nat) : Int))) = (4 * a + i) by omega)).trans ((hRT.2.2 a (by omega)).2.2 i (by omega)))) ((Fr_v hF (by decide)).trans ((congrArg (h 124) (show (Int.toNat ((15 + (11 * ((a : Nat) : Int))) + 4)) = (19 + 11 * a) by omega)).trans (hRT.1.2 a (by omega)).2.2.1)) (show 0 ≤ ((a : Nat) : Int) ∧ ((a : Nat) : Int) ≤ 11 by omega) (show 0 ≤ ((i : Nat) : Int) ∧ ((i : Nat) : Int) ≤ 3 by omega) (show 0 ≤ (T 6 a) ∧ (T 6 a) ≤ 1559 by omega) (show 0 ≤ (T 9 (4 * a + i) - T 6 a) ∧ (T 9 (4 * a + i) - T 6 a) ≤ 1000 by omega) (show 1 ≤ (T 4 a) ∧ (T 4 a) ≤ 600 by omega) ?_)
      show Aj γ mX9_goesOn d 0 0 Post 30 [(4, vI ((i : Nat) : Int)), (3, vI ((r : Nat) : Int)), (0, vA 123), (1, vI ((a : Nat) : Int)), (2, vI ((b : Nat) : Int))] [vI ((T 6 a) + (T 9 (4 * a + i) - T 6 a) + (T 4 a))] (mk h1 τ)
      refine a_aload_n (j := 2) dX9_goesOn_30 rfl rfl (Nat.le_of_ble_eq_true rfl) ?_
      refine b_getp (a := 123) (p := 127) dX9_goesOn_31 fwX9_19 (by decide) rfl (by decide) rfl rfl ?_
      refine a_aload_n (j := 2) dX9_goesOn_34 rfl rfl (Nat.le_of_ble_eq_true rfl) ?_
      refine a_iload_n (j := 3) dX9_goesOn_35 rfl rfl ?_
      refine a_iconst dX9_goesOn_36 ⟨by decide, by decide⟩ ?_
      refine b_callV (d' := d - 1) (mc' := 0) (ms' := 0) (mc1 := 0) (ms1 := 0) (st := [vA 127, vI ((T 6 a) + (T 9 (4 * a + i) - T 6 a) + (T 4 a))]) (b := 123) [vI ((a : Nat) : Int), vI 2] dX9_goesOn_37 mwX9_of lkX9_107 (by decide) rfl rc_X9 rfl (Nat.le_of_ble_eq_true rfl) (by omega) rfl rfl (c_X9_of (v1 := (T 3 a)) (by omega)  ((Fr_v hF (by decide)).trans ((congrArg (h 124) (show (Int.toNat ((15 + (11 * ((a : Nat) : Int))) + 2)) = (17 + 11 * a) by omega)).trans (hRT.1.2 a (by omega)).2.1)) (show 0 ≤ ((a : Nat) : Int) ∧ ((a : Nat) : Int) ≤ 11 ∧ 0 ≤ 2 ∧ 2 ≤ 10 by omega) ?_)
      show Aj γ mX9_goesOn d 0 0 Post 40 [(4, vI ((i : Nat) : Int)), (3, vI ((r : Nat) : Int)), (0, vA 123), (1, vI ((a : Nat) : Int)), (2, vI ((b : Nat) : Int))] [vI (T 3 a), vA 127, vI ((T 6 a) + (T 9 (4 * a + i) - T 6 a) + (T 4 a))] (mk h1 τ)
      refine b_iaload (a := 127) (z := T 1 (Int.toNat (T 3 a))) (Int.toNat (T 3 a)) dX9_goesOn_40 (by decide) rfl (by omega) (by omega) (sp_nil rfl _) ((Fr_v hF (by decide)).trans (hRT.2.1 _ (by omega))) (fun r40_2 => ?_)
      refine a_iadd (z := (((T 6 a) + (T 9 (4 * a + i) - T 6 a) + (T 4 a)) + (T 1 (Int.toNat (T 3 a))))) dX9_goesOn_41 (w_ok (by omega) (by omega)) ?_
      refine a_aload_n (j := 2) dX9_goesOn_42 rfl rfl (Nat.le_of_ble_eq_true rfl) ?_
      refine a_iload_n (j := 4) dX9_goesOn_43 rfl rfl ?_
      refine a_iload_n (j := 1) dX9_goesOn_44 rfl rfl ?_
      refine b_callV (d' := d - 1) (mc' := 0) (ms' := 0) (mc1 := 0) (ms1 := 0) (st := [vI (((T 6 a) + (T 9 (4 * a + i) - T 6 a) + (T 4 a)) + (T 1 (Int.toNat (T 3 a))))]) (b := 123) [vI ((b : Nat) : Int), vI ((r : Nat) : Int)] dX9_goesOn_45 mwX9_later lkX9_143 (by decide) rfl rc_X9 rfl (Nat.le_of_ble_eq_true rfl) (by omega) rfl rfl (c_X9_later (v1 := (T 6 b)) (v2 := (T 9 (4 * b + r) - T 6 b)) (by omega)  ((Fr_v hF (by decide)).trans ((congrArg (h 128) (show (Int.toNat ((b : Nat) : Int)) = b by omega)).trans (hRT.2.2 b (by omega)).1)) ((Fr_v hF (by decide)).trans ((congrArg (h 130) (show (Int.toNat ((4 * ((b : Nat) : Int)) + ((r : Nat) : Int))) = (4 * b + r) by omega)).trans ((hRT.2.2 b (by omega)).2.2 r (by omega)))) (show 0 ≤ ((b : Nat) : Int) ∧ ((b : Nat) : Int) ≤ 11 by omega) (show 0 ≤ ((r : Nat) : Int) ∧ ((r : Nat) : Int) ≤ 3 by omega) (show 0 ≤ (T 6 b) ∧ (T 6 b) ≤ 1559 by omega) (show 0 ≤ (T 9 (4 * b + r) - T 6 b) ∧ (T 9 (4 * b + r) - T 6 b) ≤ 1000 by omega) ?_)
      show Aj γ mX9_goesOn d 0 0 Post 48 [(4, vI ((i : Nat) : Int)), (3, vI ((r : Nat) : Int)), (0, vA 123), (1, vI ((a : Nat) : Int)), (2, vI ((b : Nat) : Int))] [vI ((T 6 b) + (T 9 (4 * b + r) - T 6 b)), vI (((T 6 a) + (T 9 (4 * a + i) - T 6 a) + (T 4 a)) + (T 1 (Int.toNat (T 3 a))))] (mk h1 τ)
      refine a_aload_n (j := 2) dX9_goesOn_48 rfl rfl (Nat.le_of_ble_eq_true rfl) ?_
      refine b_getp (a := 123) (p := 129) dX9_goesOn_49 fwX9_25 (by decide) rfl (by decide) rfl rfl ?_
      refine a_iload_n (j := 4) dX9_goesOn_52 rfl rfl ?_
      refine b_iaload (a := 129) (z := T 7 b) b dX9_goesOn_53 (by decide) rfl rfl (by omega) (sp_nil rfl _) ((Fr_v hF (by decide)).trans (hRT.2.2 b (by omega)).2.1) (fun r53_3 => ?_)
      refine a_iadd (z := (((T 6 b) + (T 9 (4 * b + r) - T 6 b)) + (T 7 b))) dX9_goesOn_54 (w_ok (by omega) (by omega)) ?_
      refine a_icmp_gt (tgt := 62) dX9_goesOn_55 (by decide) (fun c55_4 => ?_) (fun c55_4 => ?_)
      · refine a_iconst dX9_goesOn_62 ⟨by decide, by decide⟩ ?_
        refine a_istore (lv' := [(5, vI 0), (4, vI ((i : Nat) : Int)), (3, vI ((r : Nat) : Int)), (0, vA 123), (1, vI ((a : Nat) : Int)), (2, vI ((b : Nat) : Int))]) dX9_goesOn_63 (by decide) rfl ?_
        refine a_aload_n (j := 3) dX9_goesOn_65 rfl rfl (Nat.le_of_ble_eq_true rfl) ?_
        refine b_getp (a := 123) (p := 132) dX9_goesOn_66 fwX9_35 (by decide) rfl (by decide) rfl rfl ?_
        refine a_iload_n (j := 2) dX9_goesOn_69 rfl rfl ?_
        refine a_dup2 dX9_goesOn_70 (fun h => nomatch h) (fun h => nomatch h) ?_
        refine b_laload (a := 132) (z := (sm (fRT T a b W r) i)) r dX9_goesOn_71 (by decide) rfl rfl (by omega) (sp_nil rfl _) ia (fun r71_5 => ?_)
        refine a_iload (j := 0) dX9_goesOn_72 rfl ?_
        refine a_if_eq (tgt := 98) dX9_goesOn_74 (by decide) (fun _ => ?_) (fun c => absurd c (by decide))
        refine a_lconst (z := 0) dX9_goesOn_98 ⟨by decide, by decide, by decide⟩ ?_
        refine a_ladd (z := (sm (fRT T a b W r) i) + 0) dX9_goesOn_99 (w_okL (by omega) (by omega)) ?_
        refine b_lastore (a := 132) r dX9_goesOn_100 (by decide) rfl rfl (by omega) (sp_nil rfl _) ?_
        refine a_iinc (j := 1) (z' := ((i + 1 : Nat) : Int)) (lv' := [(4, vI ((i + 1 : Nat) : Int)), (5, vI 0), (3, vI ((r : Nat) : Int)), (0, vA 123), (1, vI ((a : Nat) : Int)), (2, vI ((b : Nat) : Int))]) dX9_goesOn_101 rfl (w_okN (by omega) (by omega) (by omega)) (by decide) rfl ?_
        refine a_goto (tgt := 17) dX9_goesOn_104 (by decide) ?_
        have e : sm (fRT T a b W r) (i + 1) = (sm (fRT T a b W r) i) + 0 := by rw [sm_s, show fRT T a b W r i = 0 from if_neg (by unfold msT; omega)]
        refine a_lv (lv' := [(4, vI (((i + 1) : Nat) : Int)), (3, vI ((r : Nat) : Int)), (0, vA 123), (1, vI ((a : Nat) : Int)), (2, vI ((b : Nat) : Int))]) (by intro q hq; simp only [List.mem_cons, List.not_mem_nil, or_false] at hq ⊢; rcases hq with rfl | rfl | rfl | rfl | rfl <;> simp) (ih (i + 1) (up2 h1 132 r ((sm (fRT T a b W r) i) + 0))  (by omega) (by omega) (Fr_u (by decide) (Fr_m (by decide) hF)) (up2_at.trans e.symm) (fun q hq => (up2_ne (by omega)).trans (io q hq)))
      · refine a_iconst dX9_goesOn_58 ⟨by decide, by decide⟩ ?_
        refine a_goto (tgt := 63) dX9_goesOn_59 (by decide) ?_
        refine a_istore (lv' := [(5, vI 1), (4, vI ((i : Nat) : Int)), (3, vI ((r : Nat) : Int)), (0, vA 123), (1, vI ((a : Nat) : Int)), (2, vI ((b : Nat) : Int))]) dX9_goesOn_63 (by decide) rfl ?_
        refine a_aload_n (j := 3) dX9_goesOn_65 rfl rfl (Nat.le_of_ble_eq_true rfl) ?_
        refine b_getp (a := 123) (p := 132) dX9_goesOn_66 fwX9_35 (by decide) rfl (by decide) rfl rfl ?_
        refine a_iload_n (j := 2) dX9_goesOn_69 rfl rfl ?_
        refine a_dup2 dX9_goesOn_70 (fun h => nomatch h) (fun h => nomatch h) ?_
        refine b_laload (a := 132) (z := (sm (fRT T a b W r) i)) r dX9_goesOn_71 (by decide) rfl rfl (by omega) (sp_nil rfl _) ia (fun r71_6 => ?_)
        refine a_iload (j := 0) dX9_goesOn_72 rfl ?_
        refine a_if_eq (tgt := 98) dX9_goesOn_74 (by decide) (fun c => absurd c (by decide)) (fun _ => ?_)
        refine a_aload_n (j := 3) dX9_goesOn_77 rfl rfl (Nat.le_of_ble_eq_true rfl) ?_
        refine b_getp (a := 123) (p := 131) dX9_goesOn_78 fwX9_31 (by decide) rfl (by decide) rfl rfl ?_
        refine a_iload (j := 1) dX9_goesOn_81 rfl ?_
        refine b_laload (a := 131) (z := W i) i dX9_goesOn_83 (by decide) rfl rfl (by omega) (sp_nil rfl _) ((Fr_v hF (by decide)).trans (hW i (by omega))) (fun r83_7 => ?_)
        refine a_aload_n (j := 3) dX9_goesOn_84 rfl rfl (Nat.le_of_ble_eq_true rfl) ?_
        refine a_iload_n (j := 5) dX9_goesOn_85 rfl rfl ?_
        refine a_bipush dX9_goesOn_86 ⟨by decide, by decide, by decide⟩ ?_
        refine a_iload_n (j := 2) dX9_goesOn_88 rfl rfl ?_
        refine a_iadd (z := (7 + ((r : Nat) : Int))) dX9_goesOn_89 (w_ok (by omega) (by omega)) ?_
        refine b_callV (d' := d - 1) (mc' := 0) (ms' := 0) (mc1 := 0) (ms1 := 0) (st := [vL (W i), vL (sm (fRT T a b W r) i), vI ((r : Nat) : Int), vA 132]) (b := 123) [vI ((b : Nat) : Int), vI (7 + ((r : Nat) : Int))] dX9_goesOn_90 mwX9_of lkX9_107 (by decide) rfl rc_X9 rfl (Nat.le_of_ble_eq_true rfl) (by omega) rfl rfl (c_X9_of (v1 := (T 8 (4 * b + r))) (by omega)  ((Fr_v hF (by decide)).trans ((congrArg (h 124) (show (Int.toNat ((15 + (11 * ((b : Nat) : Int))) + (7 + ((r : Nat) : Int)))) = (22 + 11 * b + r) by omega)).trans ((hRT.1.2 b (by omega)).2.2.2.2.2 r (by omega)))) (show 0 ≤ ((b : Nat) : Int) ∧ ((b : Nat) : Int) ≤ 11 ∧ 0 ≤ (7 + ((r : Nat) : Int)) ∧ (7 + ((r : Nat) : Int)) ≤ 10 by omega) ?_)
        show Aj γ mX9_goesOn d 0 0 Post 93 [(5, vI 1), (4, vI ((i : Nat) : Int)), (3, vI ((r : Nat) : Int)), (0, vA 123), (1, vI ((a : Nat) : Int)), (2, vI ((b : Nat) : Int))] [vI (T 8 (4 * b + r)), vL (W i), vL (sm (fRT T a b W r) i), vI ((r : Nat) : Int), vA 132] (mk h1 τ)
        refine a_i2l dX9_goesOn_93 ?_
        refine a_lmul (z := ((W i) * (T 8 (4 * b + r)))) dX9_goesOn_94 (w_okL (by omega) (by omega)) ?_
        refine a_goto (tgt := 99) dX9_goesOn_95 (by decide) ?_
        refine a_ladd (z := ((sm (fRT T a b W r) i) + ((W i) * (T 8 (4 * b + r))))) dX9_goesOn_99 (w_okL (by omega) (by omega)) ?_
        refine b_lastore (a := 132) r dX9_goesOn_100 (by decide) rfl rfl (by omega) (sp_nil rfl _) ?_
        refine a_iinc (j := 1) (z' := ((i + 1 : Nat) : Int)) (lv' := [(4, vI ((i + 1 : Nat) : Int)), (5, vI 1), (3, vI ((r : Nat) : Int)), (0, vA 123), (1, vI ((a : Nat) : Int)), (2, vI ((b : Nat) : Int))]) dX9_goesOn_101 rfl (w_okN (by omega) (by omega) (by omega)) (by decide) rfl ?_
        refine a_goto (tgt := 17) dX9_goesOn_104 (by decide) ?_
        have e : sm (fRT T a b W r) (i + 1) = ((sm (fRT T a b W r) i) + ((W i) * (T 8 (4 * b + r)))) := by rw [sm_s, show fRT T a b W r i = W i * T 8 (4 * b + r) from if_pos (by unfold msT; omega)]
        refine a_lv (lv' := [(4, vI (((i + 1) : Nat) : Int)), (3, vI ((r : Nat) : Int)), (0, vA 123), (1, vI ((a : Nat) : Int)), (2, vI ((b : Nat) : Int))]) (by intro q hq; simp only [List.mem_cons, List.not_mem_nil, or_false] at hq ⊢; rcases hq with rfl | rfl | rfl | rfl | rfl <;> simp) (ih (i + 1) (up2 h1 132 r ((sm (fRT T a b W r) i) + ((W i) * (T 8 (4 * b + r)))))  (by omega) (by omega) (Fr_u (by decide) (Fr_m (by decide) hF)) (up2_at.trans e.symm) (fun q hq => (up2_ne (by omega)).trans (io q hq)))
set_option maxHeartbeats 8000000 in
theorem l_gsO {γ : GT} {d : Nat} {T : Nat → Nat → Int} {a b : Nat} {W : Nat → Int} {h : Nat → Nat → Int} {τ : List AC} {Post : Option AV → List AC → Prop} (hd : 2 ≤ d) (hT : tOK T) (hRT : RT h T) (ha : (a : Int) < T 0 2) (hb : (b : Int) < T 0 2) (hWb : ∀ s, s < 4 → 0 ≤ W s ∧ W s ≤ 2560000000000) (hW : ∀ s, s < 4 → h 131 s = W s) (kE : ∀ h' x, Fr [132] h h' → (∀ s, s < 4 → h' 132 s = wyS T a b W s) → Aj γ mX9_goesOn d 0 0 Post 113 [(3, vI x), (0, vA 123), (1, vI ((a : Nat) : Int)), (2, vI ((b : Nat) : Int))] [] (mk h' τ)) :
    ∀ (f i : Nat) (h1 : Nat → Nat → Int), i ≤ 4 → 4 < i + f → Fr [132] h h1 → (∀ s, s < i → h1 132 s = wyS T a b W s) → Aj γ mX9_goesOn d 0 0 Post 2 [(3, vI ((i : Nat) : Int)), (0, vA 123), (1, vI ((a : Nat) : Int)), (2, vI ((b : Nat) : Int))] [] (mk h1 τ) := by
  intro f
  induction f with
  | zero => intro i h1  h1_ h2_; omega
  | succ f ih =>
    intro i h1  h1_ h2_ hF iv
    refine a_iload_n (j := 0) dX9_goesOn_2 rfl rfl ?_
    refine a_iconst dX9_goesOn_3 ⟨by decide, by decide⟩ ?_
    refine a_icmp_ge (tgt := 113) dX9_goesOn_4 (by decide) (fun c4_1 => ?_) (fun c4_1 => ?_)
    · exact kE _ _ hF (fun s hs => iv s (by omega))
    · refine a_aload_n (j := 1) dX9_goesOn_7 rfl rfl (Nat.le_of_ble_eq_true rfl) ?_
      refine b_getp (a := 123) (p := 132) dX9_goesOn_8 fwX9_35 (by decide) rfl (by decide) rfl rfl ?_
      refine a_iload_n (j := 0) dX9_goesOn_11 rfl rfl ?_
      refine a_lconst (z := 0) dX9_goesOn_12 ⟨by decide, by decide, by decide⟩ ?_
      refine b_lastore (a := 132) i dX9_goesOn_13 (by decide) rfl rfl (by omega) (sp_nil rfl _) ?_
      refine a_iconst dX9_goesOn_14 ⟨by decide, by decide⟩ ?_
      refine a_istore (lv' := [(4, vI 0), (3, vI ((i : Nat) : Int)), (0, vA 123), (1, vI ((a : Nat) : Int)), (2, vI ((b : Nat) : Int))]) dX9_goesOn_15 (by decide) rfl ?_
      refine a_lv (lv' := [(4, vI ((0 : Nat) : Int)), (3, vI ((i : Nat) : Int)), (0, vA 123), (1, vI ((a : Nat) : Int)), (2, vI ((b : Nat) : Int))]) (by intro q hq; simp only [List.mem_cons, List.not_mem_nil, or_false] at hq ⊢; rcases hq with rfl | rfl | rfl | rfl | rfl <;> simp) (l_gsI (h := (up2 h1 132 i 0)) (W := W) (r := i) hd hT (RT_fr (L := [132]) (by decide) (Fr_u (by decide) hF) hRT) ha hb hWb (fun s hs => (up2_ne (by omega)).trans ((Fr_v hF (by decide)).trans (hW s hs))) (by omega) ?_ 5 0 (up2 h1 132 i 0) (by omega) (by omega) Fr_r up2_at (fun q hq => rfl))
      intro h7 x7 hF7 a7 b7
      refine a_iinc (j := 1) (z' := ((i + 1 : Nat) : Int)) (lv' := [(3, vI ((i + 1 : Nat) : Int)), (4, vI x7), (0, vA 123), (1, vI ((a : Nat) : Int)), (2, vI ((b : Nat) : Int))]) dX9_goesOn_107 rfl (w_okN (by omega) (by omega) (by omega)) (by decide) rfl ?_
      refine a_goto (tgt := 2) dX9_goesOn_110 (by decide) ?_
      refine a_lv (lv' := [(3, vI (((i + 1) : Nat) : Int)), (0, vA 123), (1, vI ((a : Nat) : Int)), (2, vI ((b : Nat) : Int))]) (by intro q hq; simp only [List.mem_cons, List.not_mem_nil, or_false] at hq ⊢; rcases hq with rfl | rfl | rfl | rfl <;> simp) (ih (i + 1) h7  (by omega) (by omega) (Fr_t (Fr_u (by decide) (Fr_m (by decide) hF)) (Fr_m (by decide) hF7)) (fun s hs => by
          by_cases c : s = i
          · subst c; exact a7
          · exact (b7 s c).trans ((up2_ne (by omega)).trans (iv s (by omega)))))
set_option maxHeartbeats 8000000 in
theorem l_gsC {γ : GT} {d : Nat} {a b : Nat} {U : Nat → Int} {h : Nat → Nat → Int} {τ : List AC} {Post : Option AV → List AC → Prop} (hU : ∀ s, s < 4 → h 132 s = U s) (kQ : ∀ h', Fr [131] h h' → (∀ s, s < 4 → h' 131 s = U s) → Post none (mk h' τ)) :
    ∀ (f i : Nat) (h1 : Nat → Nat → Int), i ≤ 4 → 4 < i + f → Fr [131] h h1 → (∀ s, s < i → h1 131 s = U s) → Aj γ mX9_goesOn d 0 0 Post 115 [(3, vI ((i : Nat) : Int)), (0, vA 123), (1, vI ((a : Nat) : Int)), (2, vI ((b : Nat) : Int))] [] (mk h1 τ) := by
  intro f
  induction f with
  | zero => intro i h1  h1_ h2_; omega
  | succ f ih =>
    intro i h1  h1_ h2_ hF iv
    refine a_iload_n (j := 0) dX9_goesOn_115 rfl rfl ?_
    refine a_iconst dX9_goesOn_116 ⟨by decide, by decide⟩ ?_
    refine a_icmp_ge (tgt := 138) dX9_goesOn_117 (by decide) (fun c117_1 => ?_) (fun c117_1 => ?_)
    · exact a_vret dX9_goesOn_138 rfl (kQ _ hF (fun s hs => iv s (by omega)))
    · refine a_aload_n (j := 1) dX9_goesOn_120 rfl rfl (Nat.le_of_ble_eq_true rfl) ?_
      refine b_getp (a := 123) (p := 131) dX9_goesOn_121 fwX9_31 (by decide) rfl (by decide) rfl rfl ?_
      refine a_iload_n (j := 0) dX9_goesOn_124 rfl rfl ?_
      refine a_aload_n (j := 1) dX9_goesOn_125 rfl rfl (Nat.le_of_ble_eq_true rfl) ?_
      refine b_getp (a := 123) (p := 132) dX9_goesOn_126 fwX9_35 (by decide) rfl (by decide) rfl rfl ?_
      refine a_iload_n (j := 0) dX9_goesOn_129 rfl rfl ?_
      refine b_laload (a := 132) (z := U i) i dX9_goesOn_130 (by decide) rfl rfl (by omega) (sp_nil rfl _) ((Fr_v hF (by decide)).trans (hU i (by omega))) (fun r130_2 => ?_)
      refine b_lastore (a := 131) i dX9_goesOn_131 (by decide) rfl rfl (by omega) (sp_nil rfl _) ?_
      refine a_iinc (j := 0) (z' := ((i + 1 : Nat) : Int)) (lv' := [(3, vI ((i + 1 : Nat) : Int)), (0, vA 123), (1, vI ((a : Nat) : Int)), (2, vI ((b : Nat) : Int))]) dX9_goesOn_132 rfl (w_okN (by omega) (by omega) (by omega)) (by decide) rfl ?_
      refine a_goto (tgt := 115) dX9_goesOn_135 (by decide) ?_
      refine a_lv (lv' := [(3, vI (((i + 1) : Nat) : Int)), (0, vA 123), (1, vI ((a : Nat) : Int)), (2, vI ((b : Nat) : Int))]) (by intro q hq; simp only [List.mem_cons, List.not_mem_nil, or_false] at hq ⊢; rcases hq with rfl | rfl | rfl | rfl <;> simp) (ih (i + 1) (up2 h1 131 i (U i))  (by omega) (by omega) (Fr_u (by decide) (Fr_m (by decide) hF)) (fun s hs => by
          by_cases c : s = i
          · subst c; exact up2_at
          · exact (up2_ne (by omega)).trans (iv s (by omega))))
theorem c_X9_goesOn {γ : GT} {d : Nat} {T : Nat → Nat → Int} {a b : Nat} {W : Nat → Int} {h : Nat → Nat → Int} {τ : List AC} {Post : Option AV → List AC → Prop} (hd : 2 ≤ d) (hT : tOK T) (hRT : RT h T) (ha : (a : Int) < T 0 2) (hb : (b : Int) < T 0 2) (hWb : ∀ s, s < 4 → 0 ≤ W s ∧ W s ≤ 2560000000000) (hW : ∀ s, s < 4 → h 131 s = W s) (kQ : ∀ h', Fr [131, 132] h h' → (∀ s, s < 4 → h' 131 s = wyS T a b W s) → Post none (mk h' τ)) : Cj γ mX9_goesOn d 0 0 [vA 123, vI ((a : Nat) : Int), vI ((b : Nat) : Int)] (mk h τ) Post := by
  refine c_of (by decide) (Nat.le_of_ble_eq_true rfl) ?_
  show Aj γ mX9_goesOn d 0 0 Post 0 [(0, vA 123), (1, vI ((a : Nat) : Int)), (2, vI ((b : Nat) : Int))] [] (mk h τ)
  refine a_iconst dX9_goesOn_0 ⟨by decide, by decide⟩ ?_
  refine a_istore_n (lv' := [(3, vI 0), (0, vA 123), (1, vI ((a : Nat) : Int)), (2, vI ((b : Nat) : Int))]) dX9_goesOn_1 rfl (by decide) rfl ?_
  refine a_lv (lv' := [(3, vI ((0 : Nat) : Int)), (0, vA 123), (1, vI ((a : Nat) : Int)), (2, vI ((b : Nat) : Int))]) (by intro q hq; simp only [List.mem_cons, List.not_mem_nil, or_false] at hq ⊢; rcases hq with rfl | rfl | rfl | rfl <;> simp) (l_gsO (h := h) (W := W) hd hT hRT ha hb hWb hW ?_ 5 0 h (by omega) (by omega) Fr_r (fun s hs => by omega))
  intro h7 x7 hF7 a7
  refine a_iconst dX9_goesOn_113 ⟨by decide, by decide⟩ ?_
  refine a_istore_n (lv' := [(3, vI 0), (0, vA 123), (1, vI ((a : Nat) : Int)), (2, vI ((b : Nat) : Int))]) dX9_goesOn_114 rfl (by decide) rfl ?_
  exact a_lv (lv' := [(3, vI ((0 : Nat) : Int)), (0, vA 123), (1, vI ((a : Nat) : Int)), (2, vI ((b : Nat) : Int))]) (by intro q hq; simp only [List.mem_cons, List.not_mem_nil, or_false] at hq ⊢; rcases hq with rfl | rfl | rfl | rfl <;> simp) (l_gsC (h := h7) (U := wyS T a b W) a7 (fun h' hF h1 => kQ h' (Fr_t (Fr_m (by decide) hF7) (Fr_m (by decide) hF)) h1) 5 0 h7 (by omega) (by omega) Fr_r (fun s hs => by omega))
set_option maxHeartbeats 8000000 in
theorem l_p9a {γ : GT} {d : Nat} {T : Nat → Nat → Int} {a : Nat} {q : Int} {h : Nat → Nat → Int} {τ : List AC} {Post : Option AV → List AC → Prop} (hd : 1 ≤ d) (hT : tOK T) (hRT : RT h T) (ha : (a : Int) < T 0 2) (kE : ∀ h' x, Fr [131] h h' → (∀ s, s < 4 → h' 131 s = T 8 (4 * a + s)) → Aj γ mX9_plan d 0 0 Post 88 [(3, vI x), (2, vI ((a : Nat) : Int)), (0, vA 123), (1, vI q)] [] (mk h' τ)) :
    ∀ (f i : Nat) (h1 : Nat → Nat → Int), i ≤ 4 → 4 < i + f → Fr [131] h h1 → (∀ s, s < i → h1 131 s = T 8 (4 * a + s)) → Aj γ mX9_plan d 0 0 Post 61 [(3, vI ((i : Nat) : Int)), (2, vI ((a : Nat) : Int)), (0, vA 123), (1, vI q)] [] (mk h1 τ) := by
  intro f
  induction f with
  | zero => intro i h1  h1_ h2_; omega
  | succ f ih =>
    intro i h1  h1_ h2_ hF iv
    have h2_ := hT.2.2.1
    refine a_iload_n (j := 0) dX9_plan_61 rfl rfl ?_
    refine a_iconst dX9_plan_62 ⟨by decide, by decide⟩ ?_
    refine a_icmp_ge (tgt := 88) dX9_plan_63 (by decide) (fun c63_1 => ?_) (fun c63_1 => ?_)
    · exact kE _ _ hF (fun s hs => iv s (by omega))
    · refine a_aload_n (j := 2) dX9_plan_66 rfl rfl (Nat.le_of_ble_eq_true rfl) ?_
      refine b_getp (a := 123) (p := 131) dX9_plan_67 fwX9_31 (by decide) rfl (by decide) rfl rfl ?_
      refine a_iload_n (j := 0) dX9_plan_70 rfl rfl ?_
      refine a_aload_n (j := 2) dX9_plan_71 rfl rfl (Nat.le_of_ble_eq_true rfl) ?_
      refine a_iload_n (j := 1) dX9_plan_72 rfl rfl ?_
      refine a_bipush dX9_plan_73 ⟨by decide, by decide, by decide⟩ ?_
      refine a_iload_n (j := 0) dX9_plan_75 rfl rfl ?_
      refine a_iadd (z := (7 + ((i : Nat) : Int))) dX9_plan_76 (w_ok (by omega) (by omega)) ?_
      refine b_callV (d' := d - 1) (mc' := 0) (ms' := 0) (mc1 := 0) (ms1 := 0) (st := [vI ((i : Nat) : Int), vA 131]) (b := 123) [vI ((a : Nat) : Int), vI (7 + ((i : Nat) : Int))] dX9_plan_77 mwX9_of lkX9_107 (by decide) rfl rc_X9 rfl (Nat.le_of_ble_eq_true rfl) (by omega) rfl rfl (c_X9_of (v1 := (T 8 (4 * a + i))) (by omega)  ((Fr_v hF (by decide)).trans ((congrArg (h 124) (show (Int.toNat ((15 + (11 * ((a : Nat) : Int))) + (7 + ((i : Nat) : Int)))) = (22 + 11 * a + i) by omega)).trans ((hRT.1.2 a (by omega)).2.2.2.2.2 i (by omega)))) (show 0 ≤ ((a : Nat) : Int) ∧ ((a : Nat) : Int) ≤ 11 ∧ 0 ≤ (7 + ((i : Nat) : Int)) ∧ (7 + ((i : Nat) : Int)) ≤ 10 by omega) ?_)
      show Aj γ mX9_plan d 0 0 Post 80 [(3, vI ((i : Nat) : Int)), (2, vI ((a : Nat) : Int)), (0, vA 123), (1, vI q)] [vI (T 8 (4 * a + i)), vI ((i : Nat) : Int), vA 131] (mk h1 τ)
      refine a_i2l dX9_plan_80 ?_
      refine b_lastore (a := 131) i dX9_plan_81 (by decide) rfl rfl (by omega) (sp_nil rfl _) ?_
      refine a_iinc (j := 0) (z' := ((i + 1 : Nat) : Int)) (lv' := [(3, vI ((i + 1 : Nat) : Int)), (2, vI ((a : Nat) : Int)), (0, vA 123), (1, vI q)]) dX9_plan_82 rfl (w_okN (by omega) (by omega) (by omega)) (by decide) rfl ?_
      refine a_goto (tgt := 61) dX9_plan_85 (by decide) ?_
      refine a_lv (lv' := [(3, vI (((i + 1) : Nat) : Int)), (2, vI ((a : Nat) : Int)), (0, vA 123), (1, vI q)]) (by intro q hq; simp only [List.mem_cons, List.not_mem_nil, or_false] at hq ⊢; rcases hq with rfl | rfl | rfl | rfl <;> simp) (ih (i + 1) (up2 h1 131 i (T 8 (4 * a + i)))  (by omega) (by omega) (Fr_u (by decide) (Fr_m (by decide) hF)) (fun s hs => by
          by_cases c : s = i
          · subst c; exact up2_at
          · exact (up2_ne (by omega)).trans (iv s (by omega))))
set_option maxHeartbeats 8000000 in
theorem l_p9m {γ : GT} {d : Nat} {T : Nat → Nat → Int} {pl : Nat → Nat} {n : Nat} {q : Int} {h : Nat → Nat → Int} {τ : List AC} {Post : Option AV → List AC → Prop} (hd : 3 ≤ d) (hT : tOK T) (hRT : RT h T) (hn : h 124 7 = ((n : Nat) : Int)) (hn6 : 1 ≤ n ∧ n ≤ 6) (hpl : ∀ k : Nat, k < n → h 124 (147 + k) = ((pl k : Nat) : Int) ∧ ((pl k : Nat) : Int) < T 0 2) (kE : ∀ h', Fr [131, 132] h h' → (∀ s, s < 4 → h' 131 s = wyN T pl (n - 1) s) → Aj γ mX9_plan d 0 0 Post 133 [(3, vI ((n : Nat) : Int)), (2, vI ((pl (n - 1) : Nat) : Int)), (0, vA 123), (1, vI q)] [] (mk h' τ)) :
    ∀ (f i : Nat) (h1 : Nat → Nat → Int), i ≤ n → n < i + f → Fr [131, 132] h h1 → (∀ s, s < 4 → h1 131 s = wyN T pl (i - 1) s) → (1 ≤ i) → Aj γ mX9_plan d 0 0 Post 90 [(3, vI ((i : Nat) : Int)), (2, vI (((pl (i - 1)) : Nat) : Int)), (0, vA 123), (1, vI q)] [] (mk h1 τ) := by
  intro f
  induction f with
  | zero => intro i h1  h1_ h2_; omega
  | succ f ih =>
    intro i h1  h1_ h2_ hF iy i1
    have h2_ := hT.2.2.1
    refine a_iload_n (j := 0) dX9_plan_90 rfl rfl ?_
    refine a_aload_n (j := 2) dX9_plan_91 rfl rfl (Nat.le_of_ble_eq_true rfl) ?_
    refine b_getp (a := 123) (p := 124) dX9_plan_92 fwX9_9 (by decide) rfl (by decide) rfl rfl ?_
    refine a_bipush dX9_plan_95 ⟨by decide, by decide, by decide⟩ ?_
    refine b_iaload (a := 124) (z := ((n : Nat) : Int)) 7 dX9_plan_97 (by decide) rfl rfl (by decide) rfl ((Fr_v hF (by decide)).trans hn) (fun r97_1 => ?_)
    refine a_icmp_ge (tgt := 133) dX9_plan_98 (by decide) (fun c98_2 => ?_) (fun c98_2 => ?_)
    · obtain rfl : i = n := (by omega)
      exact kE _ hF iy
    · refine a_aload_n (j := 2) dX9_plan_101 rfl rfl (Nat.le_of_ble_eq_true rfl) ?_
      refine a_iload_n (j := 1) dX9_plan_102 rfl rfl ?_
      refine a_aload_n (j := 2) dX9_plan_103 rfl rfl (Nat.le_of_ble_eq_true rfl) ?_
      refine b_getp (a := 123) (p := 124) dX9_plan_104 fwX9_9 (by decide) rfl (by decide) rfl rfl ?_
      refine a_sipush dX9_plan_107 ⟨by decide, by decide, by decide⟩ ?_
      refine a_iload_n (j := 0) dX9_plan_110 rfl rfl ?_
      refine a_iadd (z := (147 + ((i : Nat) : Int))) dX9_plan_111 (w_ok (by omega) (by omega)) ?_
      refine b_iaload (a := 124) (z := ((pl i : Nat) : Int)) (147 + i) dX9_plan_112 (by decide) rfl (by omega) (by omega) (sp_nil rfl _) ((Fr_v hF (by decide)).trans (hpl i (by omega)).1) (fun r112_3 => ?_)
      have hp1 := (hpl (i - 1) (by omega)).2
      have hp2 := (hpl i (by omega)).2
      refine b_callV (d' := d - 1) (mc' := 0) (ms' := 0) (mc1 := 0) (ms1 := 0) (st := []) (b := 123) [vI (((pl (i - 1)) : Nat) : Int), vI ((pl i : Nat) : Int)] dX9_plan_113 mwX9_goesOn lkX9_197 (by decide) rfl rc_X9 rfl (Nat.le_of_ble_eq_true rfl) (by omega) rfl rfl (c_X9_goesOn (T := T) (a := pl (i - 1)) (b := pl i) (W := wyN T pl (i - 1)) (by omega) hT (RT_fr (by decide) hF hRT) hp1 hp2 (wy_b4 hT (by omega)) iy (fun h9 hF9 j2 => ?_))
      show Aj γ mX9_plan d 0 0 Post 116 [(3, vI ((i : Nat) : Int)), (2, vI (((pl (i - 1)) : Nat) : Int)), (0, vA 123), (1, vI q)] [] (mk h9 τ)
      refine a_aload_n (j := 2) dX9_plan_116 rfl rfl (Nat.le_of_ble_eq_true rfl) ?_
      refine b_getp (a := 123) (p := 124) dX9_plan_117 fwX9_9 (by decide) rfl (by decide) rfl rfl ?_
      refine a_sipush dX9_plan_120 ⟨by decide, by decide, by decide⟩ ?_
      refine a_iload_n (j := 0) dX9_plan_123 rfl rfl ?_
      refine a_iadd (z := (147 + ((i : Nat) : Int))) dX9_plan_124 (w_ok (by omega) (by omega)) ?_
      refine b_iaload (a := 124) (z := ((pl i : Nat) : Int)) (147 + i) dX9_plan_125 (by decide) rfl (by omega) (by omega) (sp_nil rfl _) ((Fr_v hF9 (by decide)).trans ((Fr_v hF (by decide)).trans (hpl i (by omega)).1)) (fun r125_4 => ?_)
      refine a_istore_n (lv' := [(2, vI ((pl i : Nat) : Int)), (3, vI ((i : Nat) : Int)), (0, vA 123), (1, vI q)]) dX9_plan_126 rfl (by decide) rfl ?_
      refine a_iinc (j := 1) (z' := ((i + 1 : Nat) : Int)) (lv' := [(3, vI ((i + 1 : Nat) : Int)), (2, vI ((pl i : Nat) : Int)), (0, vA 123), (1, vI q)]) dX9_plan_127 rfl (w_okN (by omega) (by omega) (by omega)) (by decide) rfl ?_
      refine a_goto (tgt := 90) dX9_plan_130 (by decide) ?_
      have ey : ∀ s, s < 4 → h9 131 s = wyN T pl i s := by
        have e : wyN T pl ((i - 1) + 1) = wyS T (pl (i - 1)) (pl ((i - 1) + 1)) (wyN T pl (i - 1)) := rfl
        rw [show (i - 1) + 1 = i by omega] at e
        rw [e]; exact j2
      refine a_lv (lv' := [(3, vI (((i + 1) : Nat) : Int)), (2, vI (((pl i) : Nat) : Int)), (0, vA 123), (1, vI q)]) (by intro q hq; simp only [List.mem_cons, List.not_mem_nil, or_false] at hq ⊢; rcases hq with rfl | rfl | rfl | rfl <;> simp) (ih (i + 1) h9 (by omega) (by omega) (Fr_t hF hF9) (by rw [show i + 1 - 1 = i by omega]; exact ey) (by omega))
set_option maxHeartbeats 8000000 in
theorem l_p9f_0 {γ : GT} {d : Nat} {T : Nat → Nat → Int} {a : Nat} {W : Nat → Int} {h : Nat → Nat → Int} {τ : List AC} {Post : Option AV → List AC → Prop} (hd : 2 ≤ d) (hT : tOK T) (hRT : RT h T) (ha : (a : Int) < T 0 2) (hW : ∀ s, s < 4 → h 131 s = W s) (hWb : ∀ s, s < 4 → 0 ≤ W s ∧ W s ≤ 1024000000000000) (kQ : Post (some (vL (sm W 4))) (mk h τ)) :
    ∀ (f i : Nat), i ≤ 4 → 4 < i + f → Aj γ mX9_plan d 0 0 Post 138 [(5, vI ((i : Nat) : Int)), (3, vL (sm W i)), (2, vI ((a : Nat) : Int)), (0, vA 123), (1, vI 0)] [] (mk h τ) := by
  intro f
  induction f with
  | zero => intro i h1 h2; omega
  | succ f ih =>
    intro i h1 h2
    have h2_ := hT.2.2.1
    have qa := hT.2.2.2.2.2 a
    have qa3 := qa.2.1
    have qa4 := qa.2.2.1
    have qa5 := qa.2.2.2.1
    have qa6 := qa.2.2.2.2.1
    have qa7 := qa.2.2.2.2.2.1
    have qa8 := (qa.2.2.2.2.2.2.2 (by omega))
    have qaw := hT.2.2.2.2.1 (Int.toNat (T 3 a))
    have hsm := sm4_rng (f := W) (B := 1024000000000000) (fun s hs => hWb s hs) (i := i) (by omega)
    refine a_iload (j := 0) dX9_plan_138 rfl ?_
    refine a_iconst dX9_plan_140 ⟨by decide, by decide⟩ ?_
    refine a_icmp_ge (tgt := 183) dX9_plan_141 (by decide) (fun c141_1 => ?_) (fun c141_1 => ?_)
    · refine a_lload_n (j := 1) dX9_plan_183 rfl rfl ?_
      exact a_lret dX9_plan_184 rfl (by obtain rfl : i = 4 := (by omega); exact kQ)
    · have hWi := hWb i (by omega)
      have qa9i := qa.2.2.2.2.2.2.1 i (by omega)
      refine a_lload_n (j := 1) dX9_plan_144 rfl rfl ?_
      refine a_iload_n (j := 4) dX9_plan_145 rfl rfl ?_
      refine a_if_ne (tgt := 159) dX9_plan_146 (by decide) (fun c => absurd c (by decide)) (fun _ => ?_)
      refine a_aload_n (j := 3) dX9_plan_149 rfl rfl (Nat.le_of_ble_eq_true rfl) ?_
      refine b_getp (a := 123) (p := 131) dX9_plan_150 fwX9_31 (by decide) rfl (by decide) rfl rfl ?_
      refine a_iload (j := 0) dX9_plan_153 rfl ?_
      refine b_laload (a := 131) (z := W i) i dX9_plan_155 (by decide) rfl rfl (by omega) (sp_nil rfl _) (hW i (by omega)) (fun r155_2 => ?_)
      refine a_goto (tgt := 175) dX9_plan_156 (by decide) ?_
      refine a_ladd (z := ((sm W i) + (W i))) dX9_plan_175 (w_okL (by omega) (by omega)) ?_
      refine a_lstore_n (lv' := [(3, vL ((sm W i) + (W i))), (5, vI ((i : Nat) : Int)), (2, vI ((a : Nat) : Int)), (0, vA 123), (1, vI 0)]) dX9_plan_176 rfl (by decide) rfl ?_
      refine a_iinc (j := 1) (z' := ((i + 1 : Nat) : Int)) (lv' := [(5, vI ((i + 1 : Nat) : Int)), (3, vL ((sm W i) + (W i))), (2, vI ((a : Nat) : Int)), (0, vA 123), (1, vI 0)]) dX9_plan_177 rfl (w_okN (by omega) (by omega) (by omega)) (by decide) rfl ?_
      refine a_goto (tgt := 138) dX9_plan_180 (by decide) ?_
      have e : sm W (i + 1) = ((sm W i) + (W i)) := by rw [sm_s]
      have q := ih (i + 1) (by omega) (by omega)
      rw [e] at q
      exact a_lv (lv' := [(5, vI (((i + 1) : Nat) : Int)), (3, vL ((sm W i) + (W i))), (2, vI ((a : Nat) : Int)), (0, vA 123), (1, vI 0)]) (by intro q hq; simp only [List.mem_cons, List.not_mem_nil, or_false] at hq ⊢; rcases hq with rfl | rfl | rfl | rfl | rfl <;> simp) q
set_option maxHeartbeats 8000000 in
theorem l_p9f_1 {γ : GT} {d : Nat} {T : Nat → Nat → Int} {a : Nat} {W : Nat → Int} {h : Nat → Nat → Int} {τ : List AC} {Post : Option AV → List AC → Prop} (hd : 2 ≤ d) (hT : tOK T) (hRT : RT h T) (ha : (a : Int) < T 0 2) (hW : ∀ s, s < 4 → h 131 s = W s) (hWb : ∀ s, s < 4 → 0 ≤ W s ∧ W s ≤ 1024000000000000) (kQ : Post (some (vL (sm (fun s => W s * (T 9 (4 * a + s) + T 4 a)) 4))) (mk h τ)) :
    ∀ (f i : Nat), i ≤ 4 → 4 < i + f → Aj γ mX9_plan d 0 0 Post 138 [(5, vI ((i : Nat) : Int)), (3, vL (sm (fun s => W s * (T 9 (4 * a + s) + T 4 a)) i)), (2, vI ((a : Nat) : Int)), (0, vA 123), (1, vI 1)] [] (mk h τ) := by
  intro f
  induction f with
  | zero => intro i h1 h2; omega
  | succ f ih =>
    intro i h1 h2
    have h2_ := hT.2.2.1
    have qa := hT.2.2.2.2.2 a
    have qa3 := qa.2.1
    have qa4 := qa.2.2.1
    have qa5 := qa.2.2.2.1
    have qa6 := qa.2.2.2.2.1
    have qa7 := qa.2.2.2.2.2.1
    have qa8 := (qa.2.2.2.2.2.2.2 (by omega))
    have qaw := hT.2.2.2.2.1 (Int.toNat (T 3 a))
    have hsm := sm4_rng (f := (fun s => W s * (T 9 (4 * a + s) + T 4 a))) (B := 1024000000000000 * 2201) (fun s hs => mul_rng (hWb s hs) (by have q9 := qa.2.2.2.2.2.2.1 s hs; omega)) (i := i) (by omega)
    refine a_iload (j := 0) dX9_plan_138 rfl ?_
    refine a_iconst dX9_plan_140 ⟨by decide, by decide⟩ ?_
    refine a_icmp_ge (tgt := 183) dX9_plan_141 (by decide) (fun c141_1 => ?_) (fun c141_1 => ?_)
    · refine a_lload_n (j := 1) dX9_plan_183 rfl rfl ?_
      exact a_lret dX9_plan_184 rfl (by obtain rfl : i = 4 := (by omega); exact kQ)
    · have hWi := hWb i (by omega)
      have qa9i := qa.2.2.2.2.2.2.1 i (by omega)
      have hpr := mul_rng hWi (show 0 ≤ T 6 a + (T 9 (4 * a + i) - T 6 a) + T 4 a ∧ T 6 a + (T 9 (4 * a + i) - T 6 a) + T 4 a ≤ 2201 by omega)
      have hpe : W i * (T 6 a + (T 9 (4 * a + i) - T 6 a) + T 4 a) = W i * (T 9 (4 * a + i) + T 4 a) := by rw [show T 6 a + (T 9 (4 * a + i) - T 6 a) + T 4 a = T 9 (4 * a + i) + T 4 a by omega]
      have hsm1 : 0 ≤ sm (fun s => W s * (T 9 (4 * a + s) + T 4 a)) i + W i * (T 9 (4 * a + i) + T 4 a) ∧ sm (fun s => W s * (T 9 (4 * a + s) + T 4 a)) i + W i * (T 9 (4 * a + i) + T 4 a) ≤ 4 * (1024000000000000 * 2201) := sm4_rng (f := (fun s => W s * (T 9 (4 * a + s) + T 4 a))) (B := 1024000000000000 * 2201) (fun s hs => mul_rng (hWb s hs) (by have q9 := qa.2.2.2.2.2.2.1 s hs; omega)) (i := i + 1) (by omega)
      refine a_lload_n (j := 1) dX9_plan_144 rfl rfl ?_
      refine a_iload_n (j := 4) dX9_plan_145 rfl rfl ?_
      refine a_if_ne (tgt := 159) dX9_plan_146 (by decide) (fun _ => ?_) (fun c => absurd c (by decide))
      refine a_aload_n (j := 3) dX9_plan_159 rfl rfl (Nat.le_of_ble_eq_true rfl) ?_
      refine b_getp (a := 123) (p := 131) dX9_plan_160 fwX9_31 (by decide) rfl (by decide) rfl rfl ?_
      refine a_iload (j := 0) dX9_plan_163 rfl ?_
      refine b_laload (a := 131) (z := W i) i dX9_plan_165 (by decide) rfl rfl (by omega) (sp_nil rfl _) (hW i (by omega)) (fun r165_2 => ?_)
      refine a_aload_n (j := 3) dX9_plan_166 rfl rfl (Nat.le_of_ble_eq_true rfl) ?_
      refine a_iload_n (j := 2) dX9_plan_167 rfl rfl ?_
      refine a_iload (j := 0) dX9_plan_168 rfl ?_
      refine b_callV (d' := d - 1) (mc' := 0) (ms' := 0) (mc1 := 0) (ms1 := 0) (st := [vL (W i), vL (sm (fun s => W s * (T 9 (4 * a + s) + T 4 a)) i)]) (b := 123) [vI ((a : Nat) : Int), vI ((i : Nat) : Int)] dX9_plan_170 mwX9_there lkX9_158 (by decide) rfl rc_X9 rfl (Nat.le_of_ble_eq_true rfl) (by omega) rfl rfl (c_X9_there (v1 := (T 6 a)) (v2 := (T 9 (4 * a + i) - T 6 a)) (v3 := (T 4 a)) (by omega)  ((congrArg (h 128) (show (Int.toNat ((a : Nat) : Int)) = a by omega)).trans (hRT.2.2 a (by omega)).1) ((congrArg (h 130) (show (Int.toNat ((4 * ((a : Nat) : Int)) + ((i : Nat) : Int))) = (4 * a + i) by omega)).trans ((hRT.2.2 a (by omega)).2.2 i (by omega))) ((congrArg (h 124) (show (Int.toNat ((15 + (11 * ((a : Nat) : Int))) + 4)) = (19 + 11 * a) by omega)).trans (hRT.1.2 a (by omega)).2.2.1) (show 0 ≤ ((a : Nat) : Int) ∧ ((a : Nat) : Int) ≤ 11 by omega) (show 0 ≤ ((i : Nat) : Int) ∧ ((i : Nat) : Int) ≤ 3 by omega) (show 0 ≤ (T 6 a) ∧ (T 6 a) ≤ 1559 by omega) (show 0 ≤ (T 9 (4 * a + i) - T 6 a) ∧ (T 9 (4 * a + i) - T 6 a) ≤ 1000 by omega) (show 1 ≤ (T 4 a) ∧ (T 4 a) ≤ 600 by omega) ?_)
      show Aj γ mX9_plan d 0 0 Post 173 [(5, vI ((i : Nat) : Int)), (3, vL (sm (fun s => W s * (T 9 (4 * a + s) + T 4 a)) i)), (2, vI ((a : Nat) : Int)), (0, vA 123), (1, vI 1)] [vI ((T 6 a) + (T 9 (4 * a + i) - T 6 a) + (T 4 a)), vL (W i), vL (sm (fun s => W s * (T 9 (4 * a + s) + T 4 a)) i)] (mk h τ)
      refine a_i2l dX9_plan_173 ?_
      refine a_lmul (z := ((W i) * ((T 6 a) + (T 9 (4 * a + i) - T 6 a) + (T 4 a)))) dX9_plan_174 (w_okL (by omega) (by omega)) ?_
      refine a_ladd (z := ((sm (fun s => W s * (T 9 (4 * a + s) + T 4 a)) i) + ((W i) * ((T 6 a) + (T 9 (4 * a + i) - T 6 a) + (T 4 a))))) dX9_plan_175 (w_okL (by omega) (by omega)) ?_
      refine a_lstore_n (lv' := [(3, vL ((sm (fun s => W s * (T 9 (4 * a + s) + T 4 a)) i) + ((W i) * ((T 6 a) + (T 9 (4 * a + i) - T 6 a) + (T 4 a))))), (5, vI ((i : Nat) : Int)), (2, vI ((a : Nat) : Int)), (0, vA 123), (1, vI 1)]) dX9_plan_176 rfl (by decide) rfl ?_
      refine a_iinc (j := 1) (z' := ((i + 1 : Nat) : Int)) (lv' := [(5, vI ((i + 1 : Nat) : Int)), (3, vL ((sm (fun s => W s * (T 9 (4 * a + s) + T 4 a)) i) + ((W i) * ((T 6 a) + (T 9 (4 * a + i) - T 6 a) + (T 4 a))))), (2, vI ((a : Nat) : Int)), (0, vA 123), (1, vI 1)]) dX9_plan_177 rfl (w_okN (by omega) (by omega) (by omega)) (by decide) rfl ?_
      refine a_goto (tgt := 138) dX9_plan_180 (by decide) ?_
      have e : sm (fun s => W s * (T 9 (4 * a + s) + T 4 a)) (i + 1) = ((sm (fun s => W s * (T 9 (4 * a + s) + T 4 a)) i) + ((W i) * ((T 6 a) + (T 9 (4 * a + i) - T 6 a) + (T 4 a)))) := by rw [sm_s]; rw [show (T 9 (4 * a + i) + T 4 a) = T 6 a + (T 9 (4 * a + i) - T 6 a) + T 4 a by omega]
      have q := ih (i + 1) (by omega) (by omega)
      rw [e] at q
      exact a_lv (lv' := [(5, vI (((i + 1) : Nat) : Int)), (3, vL ((sm (fun s => W s * (T 9 (4 * a + s) + T 4 a)) i) + ((W i) * ((T 6 a) + (T 9 (4 * a + i) - T 6 a) + (T 4 a))))), (2, vI ((a : Nat) : Int)), (0, vA 123), (1, vI 1)]) (by intro q hq; simp only [List.mem_cons, List.not_mem_nil, or_false] at hq ⊢; rcases hq with rfl | rfl | rfl | rfl | rfl <;> simp) q
