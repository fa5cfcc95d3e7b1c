theorem uwF_rng (k : Int) : 0 ≤ uwF k ∧ uwF k ≤ 10 := by
  unfold uwF; split
  · omega
  · split <;> omega
theorem hw_0 : hwF 0 0 120 = 0 := rfl
set_option maxHeartbeats 8000000 in
theorem l_rsN {γ : GT} {d : Nat} {a t u : Nat} {N : Nat → Int} {h : Nat → Nat → Int} {τ : List AC} {Post : Option AV → List AC → Prop} (hd : 1 ≤ d) (ht : isTr a) (ha : a < 62) (htt : t < 12) (hW : trW h a N t) (hr : trR N t) (hgt : h 69 t = goN N t) (hG : ∀ u : Nat, u < t → h 69 u = goN N u ∧ 0 ≤ goN N u ∧ goN N u ≤ 1559) (hO : ∀ u : Nat, u < t → ∀ s : Nat, s < 4 → h 72 (4 * u + s) = goN N u + dlN N u s) (hh : h a 6 = -1000000005) (hN : N (21 + 11 * t) < 0) (kE : ∀ h', Fr [71, 72] h h' → (∀ s : Nat, s < 4 → h' 71 (4 * t + s) = N (22 + 11 * t + s) ∧ h' 72 (4 * t + s) = goN N t + dlN N t s) → (∀ q : Nat, q < 4 * t → h' 71 q = h 71 q ∧ h' 72 q = h 72 q) → Post none (mk h' τ)) :
    ∀ (f i : Nat) (h1 : Nat → Nat → Int), i ≤ 4 → 4 < i + f → Fr [71, 72] h h1 → (∀ s : Nat, s < i → h1 71 (4 * t + s) = N (22 + 11 * t + s) ∧ h1 72 (4 * t + s) = goN N t + dlN N t s) → (∀ q : Nat, q < 4 * t → h1 71 q = h 71 q ∧ h1 72 q = h 72 q) → Aj γ mX5_readSteps d 0 0 Post 2 [(3, vI ((i : Nat) : Int)), (0, vA 63), (1, vI ((t : Nat) : Int)), (2, vA a)] [] (mk h1 τ) := by
  intro f
  induction f with
  | zero => intro i h1  h1_ h2_; omega
  | succ f ih =>
    intro i h1  h1_ h2_ hF iv io
    refine a_iload_n (j := 0) dX5_readSteps_2 rfl rfl ?_
    refine a_iconst dX5_readSteps_3 ⟨by decide, by decide⟩ ?_
    refine a_icmp_ge (tgt := 95) dX5_readSteps_4 (by decide) (fun c4_1 => ?_) (fun c4_1 => ?_)
    · exact a_vret dX5_readSteps_95 rfl (kE _ hF (fun s hs => iv s (by omega)) io)
    · refine a_iconst dX5_readSteps_7 ⟨by decide, by decide⟩ ?_
      refine a_istore (lv' := [(4, vI 0), (3, vI ((i : Nat) : Int)), (0, vA 63), (1, vI ((t : Nat) : Int)), (2, vA a)]) dX5_readSteps_8 (by decide) rfl ?_
      have hgr := goN_rng hr
      refine a_aload_n (j := 4) dX5_readSteps_10 rfl rfl (Nat.le_of_ble_eq_true rfl) ?_
      refine b_get (a := a) (z := (-1000000005)) (t := 0) dX5_readSteps_11 fwX5_134 (by have := ht.1; omega) ht.2.1 (by decide) (tr_s ht (by decide)) rfl ((Fr_v hF (by simp only [List.mem_cons, List.not_mem_nil, or_false]; omega)).trans hh) ?_
      refine a_iconst dX5_readSteps_14 ⟨by decide, by decide⟩ ?_
      refine a_iload_n (j := 3) dX5_readSteps_15 rfl rfl ?_
      refine a_iconst dX5_readSteps_16 ⟨by decide, by decide⟩ ?_
      refine a_isub (z := (((t : Nat) : Int) - 1)) dX5_readSteps_17 (w_ok (by omega) (by omega)) ?_
      refine a_callS (d' := d - 1) (mc' := 0) (ms' := 0) (mc1 := 0) (ms1 := 0) (st := []) [vI (-1000000005), vI 0, vI (((t : Nat) : Int) - 1)] dX5_readSteps_18 mwX8_within lkX5_137 rfl (Nat.le_of_ble_eq_true rfl) (by omega) rfl rfl (c_X8_within  (by omega)    (fun t18_2 => ?_) (fun t18_2 => ?_))
      · exact absurd (show 0 ≤ (-1000000005) ∧ (-1000000005) ≤ (((t : Nat) : Int) - 1) from t18_2) (by omega)
      · have t18_2 : ¬ (0 ≤ (-1000000005) ∧ (-1000000005) ≤ (((t : Nat) : Int) - 1)) := t18_2
        show Aj γ mX5_readSteps d 0 0 Post 21 [(4, vI 0), (3, vI ((i : Nat) : Int)), (0, vA 63), (1, vI ((t : Nat) : Int)), (2, vA a)] [vI 0] (mk h1 τ)
        refine a_if_eq (tgt := 49) dX5_readSteps_21 (by decide) (fun _ => ?_) (fun c => absurd c (by decide))
        refine a_aload_n (j := 2) dX5_readSteps_49 rfl rfl (Nat.le_of_ble_eq_true rfl) ?_
        refine b_getp (a := 63) (p := 71) dX5_readSteps_50 fwX5_37 (by decide) rfl (by decide) rfl rfl ?_
        refine a_iload_n (j := 3) dX5_readSteps_53 rfl rfl ?_
        refine a_iconst dX5_readSteps_54 ⟨by decide, by decide⟩ ?_
        refine a_imul (z := (((t : Nat) : Int) * 4)) dX5_readSteps_55 (w_ok (by omega) (by omega)) ?_
        refine a_iload_n (j := 1) dX5_readSteps_56 rfl rfl ?_
        refine a_iadd (z := ((((t : Nat) : Int) * 4) + ((i : Nat) : Int))) dX5_readSteps_57 (w_ok (by omega) (by omega)) ?_
        refine a_aload_n (j := 4) dX5_readSteps_58 rfl rfl (Nat.le_of_ble_eq_true rfl) ?_
        refine b_getp (a := a) (p := (a + 1)) dX5_readSteps_59 fwX5_141 (by have := ht.1; omega) ht.2.1 (by decide) (tr_p ht) rfl ?_
        refine a_iload_n (j := 1) dX5_readSteps_62 rfl rfl ?_
        refine b_iaload (a := (a + 1)) (z := N (22 + 11 * t + i)) i dX5_readSteps_63 ht.1 ht.2.2.1 rfl (by omega) (tr_c ht) ((Fr_v hF (by simp only [List.mem_cons, List.not_mem_nil, or_false]; omega)).trans (hW.2.2.2.2.2.2.2 i (by omega))) (fun r63_3 => ?_)
        refine b_iastore (a := 71) (4 * t + i) dX5_readSteps_64 (by decide) rfl (by omega) (by omega) (sp_nil rfl _) ?_
        refine a_aload_n (j := 2) dX5_readSteps_65 rfl rfl (Nat.le_of_ble_eq_true rfl) ?_
        refine b_getp (a := 63) (p := 72) dX5_readSteps_66 fwX5_40 (by decide) rfl (by decide) rfl rfl ?_
        refine a_iload_n (j := 3) dX5_readSteps_69 rfl rfl ?_
        refine a_iconst dX5_readSteps_70 ⟨by decide, by decide⟩ ?_
        refine a_imul (z := (((t : Nat) : Int) * 4)) dX5_readSteps_71 (w_ok (by omega) (by omega)) ?_
        refine a_iload_n (j := 1) dX5_readSteps_72 rfl rfl ?_
        refine a_iadd (z := ((((t : Nat) : Int) * 4) + ((i : Nat) : Int))) dX5_readSteps_73 (w_ok (by omega) (by omega)) ?_
        refine a_aload_n (j := 2) dX5_readSteps_74 rfl rfl (Nat.le_of_ble_eq_true rfl) ?_
        refine b_getp (a := 63) (p := 69) dX5_readSteps_75 fwX5_31 (by decide) rfl (by decide) rfl rfl ?_
        refine a_iload_n (j := 3) dX5_readSteps_78 rfl rfl ?_
        refine b_iaload (a := 69) (z := goN N t) t dX5_readSteps_79 (by decide) rfl rfl (by omega) (sp_nil rfl _) ((up2_ne (by omega)).trans ((Fr_v hF (by decide)).trans hgt)) (fun r79_4 => ?_)
        refine a_aload_n (j := 4) dX5_readSteps_80 rfl rfl (Nat.le_of_ble_eq_true rfl) ?_
        refine a_iload_n (j := 1) dX5_readSteps_81 rfl rfl ?_
        refine a_iload (j := 0) dX5_readSteps_82 rfl ?_
        refine b_callV (d' := d - 1) (mc' := 0) (ms' := 0) (mc1 := 0) (ms1 := 0) (st := [vI (goN N t), vI ((((t : Nat) : Int) * 4) + ((i : Nat) : Int)), vA 72]) (b := a) [vI ((i : Nat) : Int), vI 0] dX5_readSteps_84 mwX6_delayBy lkX5_142 (by have := ht.1; omega) ht.2.1 rc_X6 rfl (Nat.le_of_ble_eq_true rfl) (by omega) rfl rfl (c_X6_delayBy (v1 := (N (15 + 11 * t))) (by omega) ht ((up2_ne (by omega)).trans ((Fr_v hF (by simp only [List.mem_cons, List.not_mem_nil, or_false]; omega)).trans hW.1)) (show 0 ≤ ((i : Nat) : Int) ∧ ((i : Nat) : Int) ≤ 3 ∧ 0 ≤ 0 ∧ 0 ≤ 1000 by omega) ?_)
        show Aj γ mX5_readSteps d 0 0 Post 87 [(4, vI 0), (3, vI ((i : Nat) : Int)), (0, vA 63), (1, vI ((t : Nat) : Int)), (2, vA a)] [vI (delF (N (15 + 11 * t)) ((i : Nat) : Int) 0), vI (goN N t), vI ((((t : Nat) : Int) * 4) + ((i : Nat) : Int)), vA 72] (mk (up2 h1 71 (4 * t + i) (N (22 + 11 * t + i))) τ)
        have hdf : 0 ≤ (delF (N (15 + 11 * t)) ((i : Nat) : Int) 0) ∧ (delF (N (15 + 11 * t)) ((i : Nat) : Int) 0) ≤ 42 := delF_rng (by omega) (by omega)
        refine a_iadd (z := ((goN N t) + (delF (N (15 + 11 * t)) ((i : Nat) : Int) 0))) dX5_readSteps_87 (w_ok (by omega) (by omega)) ?_
        refine b_iastore (a := 72) (4 * t + i) dX5_readSteps_88 (by decide) rfl (by omega) (by omega) (sp_nil rfl _) ?_
        refine a_iinc (j := 1) (z' := ((i + 1 : Nat) : Int)) (lv' := [(3, vI ((i + 1 : Nat) : Int)), (4, vI 0), (0, vA 63), (1, vI ((t : Nat) : Int)), (2, vA a)]) dX5_readSteps_89 rfl (w_okN (by omega) (by omega) (by omega)) (by decide) rfl ?_
        refine a_goto (tgt := 2) dX5_readSteps_92 (by decide) ?_
        have hvv : ((goN N t) + (delF (N (15 + 11 * t)) ((i : Nat) : Int) 0)) = goN N t + dlN N t i := by
          rw [dlN_eq hr.2.2.2.2.2.2.1.2]
          rw [if_pos hN]
        refine a_lv (lv' := [(3, vI (((i + 1) : Nat) : Int)), (0, vA 63), (1, vI ((t : Nat) : Int)), (2, vA a)]) (by intro q hq; simp only [List.mem_cons, List.not_mem_nil, or_false] at hq ⊢; rcases hq with rfl | rfl | rfl | rfl <;> simp) (ih (i + 1) (up2 (up2 h1 71 (4 * t + i) (N (22 + 11 * t + i))) 72 (4 * t + i) ((goN N t) + (delF (N (15 + 11 * t)) ((i : Nat) : Int) 0)))  (by omega) (by omega) (Fr_u (by decide) (Fr_u (by decide) (Fr_m (by decide) hF))) (fun s hs => by
          by_cases c : s = i
          · subst c; exact ⟨(up2_ne (by omega)).trans up2_at, up2_at.trans hvv⟩
          · rw [up2_ne (by omega), up2_ne (by omega), up2_ne (by omega), up2_ne (by omega)]; exact iv s (by omega)) (fun q hq => by
          rw [up2_ne (by omega), up2_ne (by omega), up2_ne (by omega), up2_ne (by omega)]; exact io q hq))
set_option maxHeartbeats 8000000 in
theorem l_rsS {γ : GT} {d : Nat} {a t u : Nat} {N : Nat → Int} {h : Nat → Nat → Int} {τ : List AC} {Post : Option AV → List AC → Prop} (hd : 1 ≤ d) (ht : isTr a) (ha : a < 62) (htt : t < 12) (hW : trW h a N t) (hr : trR N t) (hgt : h 69 t = goN N t) (hG : ∀ u : Nat, u < t → h 69 u = goN N u ∧ 0 ≤ goN N u ∧ goN N u ≤ 1559) (hO : ∀ u : Nat, u < t → ∀ s : Nat, s < 4 → h 72 (4 * u + s) = goN N u + dlN N u s) (hh : h a 6 = ((u : Nat) : Int)) (hN : N (21 + 11 * t) = ((u : Nat) : Int)) (hu : u < t) (kE : ∀ h', Fr [71, 72] h h' → (∀ s : Nat, s < 4 → h' 71 (4 * t + s) = N (22 + 11 * t + s) ∧ h' 72 (4 * t + s) = goN N t + dlN N t s) → (∀ q : Nat, q < 4 * t → h' 71 q = h 71 q ∧ h' 72 q = h 72 q) → Post none (mk h' τ)) :
    ∀ (f i : Nat) (h1 : Nat → Nat → Int), i ≤ 4 → 4 < i + f → Fr [71, 72] h h1 → (∀ s : Nat, s < i → h1 71 (4 * t + s) = N (22 + 11 * t + s) ∧ h1 72 (4 * t + s) = goN N t + dlN N t s) → (∀ q : Nat, q < 4 * t → h1 71 q = h 71 q ∧ h1 72 q = h 72 q) → Aj γ mX5_readSteps d 0 0 Post 2 [(3, vI ((i : Nat) : Int)), (0, vA 63), (1, vI ((t : Nat) : Int)), (2, vA a)] [] (mk h1 τ) := by
  intro f
  induction f with
  | zero => intro i h1  h1_ h2_; omega
  | succ f ih =>
    intro i h1  h1_ h2_ hF iv io
    refine a_iload_n (j := 0) dX5_readSteps_2 rfl rfl ?_
    refine a_iconst dX5_readSteps_3 ⟨by decide, by decide⟩ ?_
    refine a_icmp_ge (tgt := 95) dX5_readSteps_4 (by decide) (fun c4_1 => ?_) (fun c4_1 => ?_)
    · exact a_vret dX5_readSteps_95 rfl (kE _ hF (fun s hs => iv s (by omega)) io)
    · refine a_iconst dX5_readSteps_7 ⟨by decide, by decide⟩ ?_
      refine a_istore (lv' := [(4, vI 0), (3, vI ((i : Nat) : Int)), (0, vA 63), (1, vI ((t : Nat) : Int)), (2, vA a)]) dX5_readSteps_8 (by decide) rfl ?_
      have hgr := goN_rng hr
      refine a_aload_n (j := 4) dX5_readSteps_10 rfl rfl (Nat.le_of_ble_eq_true rfl) ?_
      refine b_get (a := a) (z := ((u : Nat) : Int)) (t := 0) dX5_readSteps_11 fwX5_134 (by have := ht.1; omega) ht.2.1 (by decide) (tr_s ht (by decide)) rfl ((Fr_v hF (by simp only [List.mem_cons, List.not_mem_nil, or_false]; omega)).trans hh) ?_
      refine a_iconst dX5_readSteps_14 ⟨by decide, by decide⟩ ?_
      refine a_iload_n (j := 3) dX5_readSteps_15 rfl rfl ?_
      refine a_iconst dX5_readSteps_16 ⟨by decide, by decide⟩ ?_
      refine a_isub (z := (((t : Nat) : Int) - 1)) dX5_readSteps_17 (w_ok (by omega) (by omega)) ?_
      refine a_callS (d' := d - 1) (mc' := 0) (ms' := 0) (mc1 := 0) (ms1 := 0) (st := []) [vI ((u : Nat) : Int), vI 0, vI (((t : Nat) : Int) - 1)] dX5_readSteps_18 mwX8_within lkX5_137 rfl (Nat.le_of_ble_eq_true rfl) (by omega) rfl rfl (c_X8_within  (by omega)    (fun t18_2 => ?_) (fun t18_2 => ?_))
      · have t18_2 : 0 ≤ ((u : Nat) : Int) ∧ ((u : Nat) : Int) ≤ (((t : Nat) : Int) - 1) := t18_2
        show Aj γ mX5_readSteps d 0 0 Post 21 [(4, vI 0), (3, vI ((i : Nat) : Int)), (0, vA 63), (1, vI ((t : Nat) : Int)), (2, vA a)] [vI 1] (mk h1 τ)
        refine a_if_eq (tgt := 49) dX5_readSteps_21 (by decide) (fun c => absurd c (by decide)) (fun _ => ?_)
        have hdl := dlN_rng (N := N) (t := u) (s := i) (by omega)
        have hgu := (hG u (by omega)).2
        refine a_aload_n (j := 2) dX5_readSteps_24 rfl rfl (Nat.le_of_ble_eq_true rfl) ?_
        refine b_getp (a := 63) (p := 72) dX5_readSteps_25 fwX5_40 (by decide) rfl (by decide) rfl rfl ?_
        refine a_aload_n (j := 4) dX5_readSteps_28 rfl rfl (Nat.le_of_ble_eq_true rfl) ?_
        refine b_get (a := a) (z := ((u : Nat) : Int)) (t := 0) dX5_readSteps_29 fwX5_134 (by have := ht.1; omega) ht.2.1 (by decide) (tr_s ht (by decide)) rfl ((Fr_v hF (by simp only [List.mem_cons, List.not_mem_nil, or_false]; omega)).trans hh) ?_
        refine a_iconst dX5_readSteps_32 ⟨by decide, by decide⟩ ?_
        refine a_imul (z := (((u : Nat) : Int) * 4)) dX5_readSteps_33 (w_ok (by omega) (by omega)) ?_
        refine a_iload_n (j := 1) dX5_readSteps_34 rfl rfl ?_
        refine a_iadd (z := ((((u : Nat) : Int) * 4) + ((i : Nat) : Int))) dX5_readSteps_35 (w_ok (by omega) (by omega)) ?_
        refine b_iaload (a := 72) (z := (goN N u + dlN N u i)) (4 * u + i) dX5_readSteps_36 (by decide) rfl (by omega) (by omega) (sp_nil rfl _) ((io _ (by omega)).2.trans (hO u (by omega) i (by omega))) (fun r36_3 => ?_)
        refine a_aload_n (j := 2) dX5_readSteps_37 rfl rfl (Nat.le_of_ble_eq_true rfl) ?_
        refine b_getp (a := 63) (p := 69) dX5_readSteps_38 fwX5_31 (by decide) rfl (by decide) rfl rfl ?_
        refine a_aload_n (j := 4) dX5_readSteps_41 rfl rfl (Nat.le_of_ble_eq_true rfl) ?_
        refine b_get (a := a) (z := ((u : Nat) : Int)) (t := 0) dX5_readSteps_42 fwX5_134 (by have := ht.1; omega) ht.2.1 (by decide) (tr_s ht (by decide)) rfl ((Fr_v hF (by simp only [List.mem_cons, List.not_mem_nil, or_false]; omega)).trans hh) ?_
        refine b_iaload (a := 69) (z := goN N u) u dX5_readSteps_45 (by decide) rfl rfl (by omega) (sp_nil rfl _) ((Fr_v hF (by decide)).trans (hG u (by omega)).1) (fun r45_4 => ?_)
        refine a_isub (z := ((goN N u + dlN N u i) - (goN N u))) dX5_readSteps_46 (w_ok (by omega) (by omega)) ?_
        refine a_istore (lv' := [(4, vI ((goN N u + dlN N u i) - (goN N u))), (3, vI ((i : Nat) : Int)), (0, vA 63), (1, vI ((t : Nat) : Int)), (2, vA a)]) dX5_readSteps_47 (by decide) rfl ?_
        refine a_aload_n (j := 2) dX5_readSteps_49 rfl rfl (Nat.le_of_ble_eq_true rfl) ?_
        refine b_getp (a := 63) (p := 71) dX5_readSteps_50 fwX5_37 (by decide) rfl (by decide) rfl rfl ?_
        refine a_iload_n (j := 3) dX5_readSteps_53 rfl rfl ?_
        refine a_iconst dX5_readSteps_54 ⟨by decide, by decide⟩ ?_
        refine a_imul (z := (((t : Nat) : Int) * 4)) dX5_readSteps_55 (w_ok (by omega) (by omega)) ?_
        refine a_iload_n (j := 1) dX5_readSteps_56 rfl rfl ?_
        refine a_iadd (z := ((((t : Nat) : Int) * 4) + ((i : Nat) : Int))) dX5_readSteps_57 (w_ok (by omega) (by omega)) ?_
        refine a_aload_n (j := 4) dX5_readSteps_58 rfl rfl (Nat.le_of_ble_eq_true rfl) ?_
        refine b_getp (a := a) (p := (a + 1)) dX5_readSteps_59 fwX5_141 (by have := ht.1; omega) ht.2.1 (by decide) (tr_p ht) rfl ?_
        refine a_iload_n (j := 1) dX5_readSteps_62 rfl rfl ?_
        refine b_iaload (a := (a + 1)) (z := N (22 + 11 * t + i)) i dX5_readSteps_63 ht.1 ht.2.2.1 rfl (by omega) (tr_c ht) ((Fr_v hF (by simp only [List.mem_cons, List.not_mem_nil, or_false]; omega)).trans (hW.2.2.2.2.2.2.2 i (by omega))) (fun r63_5 => ?_)
        refine b_iastore (a := 71) (4 * t + i) dX5_readSteps_64 (by decide) rfl (by omega) (by omega) (sp_nil rfl _) ?_
        refine a_aload_n (j := 2) dX5_readSteps_65 rfl rfl (Nat.le_of_ble_eq_true rfl) ?_
        refine b_getp (a := 63) (p := 72) dX5_readSteps_66 fwX5_40 (by decide) rfl (by decide) rfl rfl ?_
        refine a_iload_n (j := 3) dX5_readSteps_69 rfl rfl ?_
        refine a_iconst dX5_readSteps_70 ⟨by decide, by decide⟩ ?_
        refine a_imul (z := (((t : Nat) : Int) * 4)) dX5_readSteps_71 (w_ok (by omega) (by omega)) ?_
        refine a_iload_n (j := 1) dX5_readSteps_72 rfl rfl ?_
        refine a_iadd (z := ((((t : Nat) : Int) * 4) + ((i : Nat) : Int))) dX5_readSteps_73 (w_ok (by omega) (by omega)) ?_
        refine a_aload_n (j := 2) dX5_readSteps_74 rfl rfl (Nat.le_of_ble_eq_true rfl) ?_
        refine b_getp (a := 63) (p := 69) dX5_readSteps_75 fwX5_31 (by decide) rfl (by decide) rfl rfl ?_
        refine a_iload_n (j := 3) dX5_readSteps_78 rfl rfl ?_
        refine b_iaload (a := 69) (z := goN N t) t dX5_readSteps_79 (by decide) rfl rfl (by omega) (sp_nil rfl _) ((up2_ne (by omega)).trans ((Fr_v hF (by decide)).trans hgt)) (fun r79_6 => ?_)
        refine a_aload_n (j := 4) dX5_readSteps_80 rfl rfl (Nat.le_of_ble_eq_true rfl) ?_
        refine a_iload_n (j := 1) dX5_readSteps_81 rfl rfl ?_
        refine a_iload (j := 0) dX5_readSteps_82 rfl ?_
        refine b_callV (d' := d - 1) (mc' := 0) (ms' := 0) (mc1 := 0) (ms1 := 0) (st := [vI (goN N t), vI ((((t : Nat) : Int) * 4) + ((i : Nat) : Int)), vA 72]) (b := a) [vI ((i : Nat) : Int), vI ((goN N u + dlN N u i) - (goN N u))] dX5_readSteps_84 mwX6_delayBy lkX5_142 (by have := ht.1; omega) ht.2.1 rc_X6 rfl (Nat.le_of_ble_eq_true rfl) (by omega) rfl rfl (c_X6_delayBy (v1 := (N (15 + 11 * t))) (by omega) ht ((up2_ne (by omega)).trans ((Fr_v hF (by simp only [List.mem_cons, List.not_mem_nil, or_false]; omega)).trans hW.1)) (show 0 ≤ ((i : Nat) : Int) ∧ ((i : Nat) : Int) ≤ 3 ∧ 0 ≤ ((goN N u + dlN N u i) - (goN N u)) ∧ ((goN N u + dlN N u i) - (goN N u)) ≤ 1000 by omega) ?_)
        show Aj γ mX5_readSteps d 0 0 Post 87 [(4, vI ((goN N u + dlN N u i) - (goN N u))), (3, vI ((i : Nat) : Int)), (0, vA 63), (1, vI ((t : Nat) : Int)), (2, vA a)] [vI (delF (N (15 + 11 * t)) ((i : Nat) : Int) ((goN N u + dlN N u i) - (goN N u))), vI (goN N t), vI ((((t : Nat) : Int) * 4) + ((i : Nat) : Int)), vA 72] (mk (up2 h1 71 (4 * t + i) (N (22 + 11 * t + i))) τ)
        have hdf : 0 ≤ (delF (N (15 + 11 * t)) ((i : Nat) : Int) ((goN N u + dlN N u i) - (goN N u))) ∧ (delF (N (15 + 11 * t)) ((i : Nat) : Int) ((goN N u + dlN N u i) - (goN N u))) ≤ 42 := delF_rng (by omega) (by omega)
        refine a_iadd (z := ((goN N t) + (delF (N (15 + 11 * t)) ((i : Nat) : Int) ((goN N u + dlN N u i) - (goN N u))))) dX5_readSteps_87 (w_ok (by omega) (by omega)) ?_
        refine b_iastore (a := 72) (4 * t + i) dX5_readSteps_88 (by decide) rfl (by omega) (by omega) (sp_nil rfl _) ?_
        refine a_iinc (j := 1) (z' := ((i + 1 : Nat) : Int)) (lv' := [(3, vI ((i + 1 : Nat) : Int)), (4, vI ((goN N u + dlN N u i) - (goN N u))), (0, vA 63), (1, vI ((t : Nat) : Int)), (2, vA a)]) dX5_readSteps_89 rfl (w_okN (by omega) (by omega) (by omega)) (by decide) rfl ?_
        refine a_goto (tgt := 2) dX5_readSteps_92 (by decide) ?_
        have hvv : ((goN N t) + (delF (N (15 + 11 * t)) ((i : Nat) : Int) ((goN N u + dlN N u i) - (goN N u)))) = goN N t + dlN N t i := by
          rw [dlN_eq hr.2.2.2.2.2.2.1.2]
          rw [if_neg (by omega), hN, show Int.toNat ((u : Nat) : Int) = u by omega]
          congr 2
          omega
        refine a_lv (lv' := [(3, vI (((i + 1) : Nat) : Int)), (0, vA 63), (1, vI ((t : Nat) : Int)), (2, vA a)]) (by intro q hq; simp only [List.mem_cons, List.not_mem_nil, or_false] at hq ⊢; rcases hq with rfl | rfl | rfl | rfl <;> simp) (ih (i + 1) (up2 (up2 h1 71 (4 * t + i) (N (22 + 11 * t + i))) 72 (4 * t + i) ((goN N t) + (delF (N (15 + 11 * t)) ((i : Nat) : Int) ((goN N u + dlN N u i) - (goN N u)))))  (by omega) (by omega) (Fr_u (by decide) (Fr_u (by decide) (Fr_m (by decide) hF))) (fun s hs => by
          by_cases c : s = i
          · subst c; exact ⟨(up2_ne (by omega)).trans up2_at, up2_at.trans hvv⟩
          · rw [up2_ne (by omega), up2_ne (by omega), up2_ne (by omega), up2_ne (by omega)]; exact iv s (by omega)) (fun q hq => by
          rw [up2_ne (by omega), up2_ne (by omega), up2_ne (by omega), up2_ne (by omega)]; exact io q hq))
      · exact absurd (show ¬ (0 ≤ ((u : Nat) : Int) ∧ ((u : Nat) : Int) ≤ (((t : Nat) : Int) - 1)) from t18_2) (by omega)
theorem c_X5_readSteps {γ : GT} {d : Nat} {a t : Nat} {N : Nat → Int} {h : Nat → Nat → Int} {τ : List AC} {Post : Option AV → List AC → Prop} (hd : 1 ≤ d) (ht : isTr a) (ha : a < 62) (htt : t < 12) (hW : trW h a N t) (hr : trR N t) (hgt : h 69 t = goN N t) (hG : ∀ u : Nat, u < t → h 69 u = goN N u ∧ 0 ≤ goN N u ∧ goN N u ≤ 1559) (hO : ∀ u : Nat, u < t → ∀ s : Nat, s < 4 → h 72 (4 * u + s) = goN N u + dlN N u s) (kQ : ∀ h', Fr [71, 72] h h' → (∀ s : Nat, s < 4 → h' 71 (4 * t + s) = N (22 + 11 * t + s) ∧ h' 72 (4 * t + s) = goN N t + dlN N t s) → (∀ q : Nat, q < 4 * t → h' 71 q = h 71 q ∧ h' 72 q = h 72 q) → Post none (mk h' τ)) : Cj γ mX5_readSteps d 0 0 [vA 63, vI ((t : Nat) : Int), vA a] (mk h τ) Post := by
  refine c_of (by decide) (Nat.le_of_ble_eq_true rfl) ?_
  show Aj γ mX5_readSteps d 0 0 Post 0 [(0, vA 63), (1, vI ((t : Nat) : Int)), (2, vA a)] [] (mk h τ)
  refine a_iconst dX5_readSteps_0 ⟨by decide, by decide⟩ ?_
  refine a_istore_n (lv' := [(3, vI 0), (0, vA 63), (1, vI ((t : Nat) : Int)), (2, vA a)]) dX5_readSteps_1 rfl (by decide) rfl ?_
  refine a_lv (lv' := [(3, vI ((0 : Nat) : Int)), (0, vA 63), (1, vI ((t : Nat) : Int)), (2, vA a)]) (by intro q hq; simp only [List.mem_cons, List.not_mem_nil, or_false] at hq ⊢; rcases hq with rfl | rfl | rfl | rfl <;> simp) ?_
  by_cases c : N (21 + 11 * t) < 0
  · exact l_rsN (u := 0) hd ht ha htt hW hr hgt hG hO (hW.2.2.2.2.2.2.1.trans (if_pos c)) c kQ 5 0 h (by omega) (by omega) Fr_r (fun s hs => by omega) (fun q hq => ⟨rfl, rfl⟩)
  · obtain ⟨u, hu⟩ : ∃ u : Nat, N (21 + 11 * t) = (u : Int) := ⟨Int.toNat (N (21 + 11 * t)), by omega⟩
    have hb := hr.2.2.2.2.2.2.1
    exact l_rsS (u := u) hd ht ha htt hW hr hgt hG hO ((hW.2.2.2.2.2.2.1.trans (if_neg c)).trans hu) hu (by omega) kQ 5 0 h (by omega) (by omega) Fr_r (fun s hs => by omega) (fun q hq => ⟨rfl, rfl⟩)
set_option maxHeartbeats 8000000 in
theorem l_rtNN {γ : GT} {d : Nat} {w n q u ctq ctu : Nat} {N : Nat → Int} {h : Nat → Nat → Int} {τ : List AC} {Post : Option AV → List AC → Prop} (hd : 3 ≤ d) (hw : isWd w) (hR : WR h τ w N) (hv : NV N) (hn3 : h 63 3 = ((n : Nat) : Int)) (hn : N 5 = ((n : Nat) : Int)) (hn12 : n ≤ 12) (cq : cnN N 0 < 0) (cu : cnN N 1 < 0) (kE : ∀ h', Fr [65, 66, 67, 68, 69, 70, 71, 72, 75] h h' → (∀ u : Nat, u < n → h' 65 u = N (16 + 11 * u) ∧ h' 66 u = N (17 + 11 * u) ∧ h' 67 u = N (19 + 11 * u) ∧ h' 68 u = farF (N (15 + 11 * u)) (N (20 + 11 * u)) ∧ h' 69 u = goN N u ∧ h' 70 u = wtN N u) → (∀ u : Nat, u < n → ∀ s : Nat, s < 4 → h' 71 (4 * u + s) = N (22 + 11 * u + s) ∧ h' 72 (4 * u + s) = goN N u + dlN N u s) → Post none (mk h' τ)) :
    ∀ (f i : Nat) (h1 : Nat → Nat → Int), i ≤ n → n < i + f → Fr [65, 66, 67, 68, 69, 70, 71, 72, 75] h h1 → (∀ u : Nat, u < i → h1 65 u = N (16 + 11 * u) ∧ h1 66 u = N (17 + 11 * u) ∧ h1 67 u = N (19 + 11 * u) ∧ h1 68 u = farF (N (15 + 11 * u)) (N (20 + 11 * u)) ∧ h1 69 u = goN N u ∧ h1 70 u = wtN N u) → (∀ u : Nat, u < i → ∀ s : Nat, s < 4 → h1 71 (4 * u + s) = N (22 + 11 * u + s) ∧ h1 72 (4 * u + s) = goN N u + dlN N u s) → Aj γ mX5_readTrains d 0 0 Post 15 [(4, vI ((i : Nat) : Int)), (3, vN), (2, vN), (0, vA 63), (1, vA w)] [] (mk h1 τ) := by
  intro f
  induction f with
  | zero => intro i h1  h1_ h2_; omega
  | succ f ih =>
    intro i h1  h1_ h2_ hF iv iw
    have hw_ : w = 1 ∨ w = 32 := hw
    have hx1 := hv.2.2.2.1
    have hcn := cnN_rng hv.2.2.2 0
    have hcn1 := cnN_rng hv.2.2.2 1
    refine a_iload (j := 0) dX5_readTrains_15 rfl ?_
    refine a_aload_n (j := 3) dX5_readTrains_17 rfl rfl (Nat.le_of_ble_eq_true rfl) ?_
    refine b_get (a := 63) (z := ((n : Nat) : Int)) (t := 0) dX5_readTrains_18 fwX5_73 (by decide) rfl (by decide) rfl rfl ((Fr_v hF (by decide)).trans hn3) ?_
    refine a_icmp_ge (tgt := 198) dX5_readTrains_21 (by decide) (fun c21_1 => ?_) (fun c21_1 => ?_)
    · exact a_vret dX5_readTrains_198 rfl (kE _ hF (fun u hu => iv u (by omega)) (fun u hu => iw u (by omega)))
    · have hr : trR N i := hv.2.2.1 i (by omega)
      have hr1 := hr.1
      have hr4 := hr.2.2.2.1
      have hr6 := hr.2.2.2.2.2.1
      refine a_aload_n (j := 4) dX5_readTrains_24 rfl rfl (Nat.le_of_ble_eq_true rfl) ?_
      refine b_getp (a := w) (p := (w + 2)) dX5_readTrains_25 fwX5_105 (by rcases hw with rfl | rfl <;> decide) (by rcases hw with rfl | rfl <;> rfl) (by decide) (by rcases hw with rfl | rfl <;> rfl) rfl ?_
      refine a_iload (j := 0) dX5_readTrains_28 rfl ?_
      refine b_aaloadp (a := (w + 2)) (p := (w + 7 + 2 * i)) i dX5_readTrains_30 (by rcases hw with rfl | rfl <;> decide) (by rcases hw with rfl | rfl <;> rfl) qa_18 rfl (by omega) (tr_a hw (show i < 12 by omega)) ?_
      refine a_astore (lv' := [(5, vA (w + 7 + 2 * i)), (4, vI ((i : Nat) : Int)), (3, vN), (2, vN), (0, vA 63), (1, vA w)]) dX5_readTrains_31 (by decide) (Nat.le_of_ble_eq_true rfl) rfl ?_
      refine a_aload_n (j := 4) dX5_readTrains_33 rfl rfl (Nat.le_of_ble_eq_true rfl) ?_
      refine b_getp (a := 63) (p := 65) dX5_readTrains_34 fwX5_19 (by decide) rfl (by decide) rfl rfl ?_
      refine a_iload (j := 1) dX5_readTrains_37 rfl ?_
      refine a_aload (j := 0) dX5_readTrains_39 rfl (Nat.le_of_ble_eq_true rfl) ?_
      refine b_get (a := (w + 7 + 2 * i)) (z := N (16 + 11 * i)) (t := 0) dX5_readTrains_41 fwX5_109 (by have := (tr_w hw (show i < 12 by omega)).1; omega) (tr_w hw (show i < 12 by omega)).2.1 (by decide) (tr_s (tr_w hw (show i < 12 by omega)) (by decide)) rfl ((Fr_v hF (by simp only [List.mem_cons, List.not_mem_nil, or_false]; omega)).trans (hR.2.2.1 i (by omega)).2.1) ?_
      refine b_iastore (a := 65) i dX5_readTrains_44 (by decide) rfl rfl (by omega) (sp_nil rfl _) ?_
      refine a_aload_n (j := 4) dX5_readTrains_45 rfl rfl (Nat.le_of_ble_eq_true rfl) ?_
      refine b_getp (a := 63) (p := 66) dX5_readTrains_46 fwX5_22 (by decide) rfl (by decide) rfl rfl ?_
      refine a_iload (j := 1) dX5_readTrains_49 rfl ?_
      refine a_aload (j := 0) dX5_readTrains_51 rfl (Nat.le_of_ble_eq_true rfl) ?_
      refine b_get (a := (w + 7 + 2 * i)) (z := N (17 + 11 * i)) (t := 0) dX5_readTrains_53 fwX5_113 (by have := (tr_w hw (show i < 12 by omega)).1; omega) (tr_w hw (show i < 12 by omega)).2.1 (by decide) (tr_s (tr_w hw (show i < 12 by omega)) (by decide)) rfl ((up2_ne (by omega)).trans ((Fr_v hF (by simp only [List.mem_cons, List.not_mem_nil, or_false]; omega)).trans (hR.2.2.1 i (by omega)).2.2.1)) ?_
      refine b_iastore (a := 66) i dX5_readTrains_56 (by decide) rfl rfl (by omega) (sp_nil rfl _) ?_
      refine a_aload_n (j := 4) dX5_readTrains_57 rfl rfl (Nat.le_of_ble_eq_true rfl) ?_
      refine b_getp (a := 63) (p := 67) dX5_readTrains_58 fwX5_25 (by decide) rfl (by decide) rfl rfl ?_
      refine a_iload (j := 1) dX5_readTrains_61 rfl ?_
      refine a_aload (j := 0) dX5_readTrains_63 rfl (Nat.le_of_ble_eq_true rfl) ?_
      refine b_get (a := (w + 7 + 2 * i)) (z := N (19 + 11 * i)) (t := 0) dX5_readTrains_65 fwX5_115 (by have := (tr_w hw (show i < 12 by omega)).1; omega) (tr_w hw (show i < 12 by omega)).2.1 (by decide) (tr_s (tr_w hw (show i < 12 by omega)) (by decide)) rfl ((up2_ne (by omega)).trans ((up2_ne (by omega)).trans ((Fr_v hF (by simp only [List.mem_cons, List.not_mem_nil, or_false]; omega)).trans (hR.2.2.1 i (by omega)).2.2.2.2.1))) ?_
      refine b_iastore (a := 67) i dX5_readTrains_68 (by decide) rfl rfl (by omega) (sp_nil rfl _) ?_
      refine a_aload_n (j := 4) dX5_readTrains_69 rfl rfl (Nat.le_of_ble_eq_true rfl) ?_
      refine b_getp (a := 63) (p := 68) dX5_readTrains_70 fwX5_28 (by decide) rfl (by decide) rfl rfl ?_
      refine a_iload (j := 1) dX5_readTrains_73 rfl ?_
      refine a_aload (j := 0) dX5_readTrains_75 rfl (Nat.le_of_ble_eq_true rfl) ?_
      refine b_callV (d' := d - 1) (mc' := 0) (ms' := 0) (mc1 := 0) (ms1 := 0) (st := [vI ((i : Nat) : Int), vA 68]) (b := (w + 7 + 2 * i)) [] dX5_readTrains_77 mwX6_fare lkX5_117 (by have := (tr_w hw (show i < 12 by omega)).1; omega) (tr_w hw (show i < 12 by omega)).2.1 rc_X6 rfl (Nat.le_of_ble_eq_true rfl) (by omega) rfl rfl (c_X6_fare (v1 := (N (20 + 11 * i))) (v2 := (N (15 + 11 * i))) (by omega) (tr_w hw (show i < 12 by omega)) ((up2_ne (by omega)).trans ((up2_ne (by omega)).trans ((up2_ne (by omega)).trans ((Fr_v hF (by simp only [List.mem_cons, List.not_mem_nil, or_false]; omega)).trans (hR.2.2.1 i (by omega)).2.2.2.2.2.1)))) ((up2_ne (by omega)).trans ((up2_ne (by omega)).trans ((up2_ne (by omega)).trans ((Fr_v hF (by simp only [List.mem_cons, List.not_mem_nil, or_false]; omega)).trans (hR.2.2.1 i (by omega)).1)))) (show 0 ≤ (N (20 + 11 * i)) ∧ (N (20 + 11 * i)) ≤ 999 by omega) ?_)
      show Aj γ mX5_readTrains d 0 0 Post 80 [(5, vA (w + 7 + 2 * i)), (4, vI ((i : Nat) : Int)), (3, vN), (2, vN), (0, vA 63), (1, vA w)] [vI (farF (N (15 + 11 * i)) (N (20 + 11 * i))), vI ((i : Nat) : Int), vA 68] (mk (up2 (up2 (up2 h1 65 i (N (16 + 11 * i))) 66 i (N (17 + 11 * i))) 67 i (N (19 + 11 * i))) τ)
      refine b_iastore (a := 68) i dX5_readTrains_80 (by decide) rfl rfl (by omega) (sp_nil rfl _) ?_
      refine a_aload_n (j := 3) dX5_readTrains_81 rfl rfl (Nat.le_of_ble_eq_true rfl) ?_
      refine a_ifnonnull (tgt := 93) dX5_readTrains_82 (by decide) (fun c => absurd c (by decide)) (fun _ => ?_)
      refine a_aload (j := 0) dX5_readTrains_85 rfl (Nat.le_of_ble_eq_true rfl) ?_
      refine b_callV (d' := d - 1) (mc' := 0) (ms' := 0) (mc1 := 0) (ms1 := 0) (st := []) (b := (w + 7 + 2 * i)) [] dX5_readTrains_87 mwX6_usualWait lkX5_121 (by have := (tr_w hw (show i < 12 by omega)).1; omega) (tr_w hw (show i < 12 by omega)).2.1 rc_X6 rfl (Nat.le_of_ble_eq_true rfl) (by omega) rfl rfl (c_X6_usualWait (v1 := (N (15 + 11 * i))) (by omega) (tr_w hw (show i < 12 by omega)) ((up2_ne (by omega)).trans ((up2_ne (by omega)).trans ((up2_ne (by omega)).trans ((up2_ne (by omega)).trans ((Fr_v hF (by simp only [List.mem_cons, List.not_mem_nil, or_false]; omega)).trans (hR.2.2.1 i (by omega)).1)))))  ?_)
      show Aj γ mX5_readTrains d 0 0 Post 90 [(5, vA (w + 7 + 2 * i)), (4, vI ((i : Nat) : Int)), (3, vN), (2, vN), (0, vA 63), (1, vA w)] [vI (uwF (N (15 + 11 * i)))] (mk (up2 (up2 (up2 (up2 h1 65 i (N (16 + 11 * i))) 66 i (N (17 + 11 * i))) 67 i (N (19 + 11 * i))) 68 i (farF (N (15 + 11 * i)) (N (20 + 11 * i)))) τ)
      refine a_goto (tgt := 112) dX5_readTrains_90 (by decide) ?_
      refine a_istore (lv' := [(6, vI (uwF (N (15 + 11 * i)))), (5, vA (w + 7 + 2 * i)), (4, vI ((i : Nat) : Int)), (3, vN), (2, vN), (0, vA 63), (1, vA w)]) dX5_readTrains_112 (by decide) rfl ?_
      refine a_aload_n (j := 5) dX5_readTrains_114 rfl rfl (Nat.le_of_ble_eq_true rfl) ?_
      refine b_getp (a := 63) (p := 70) dX5_readTrains_115 fwX5_34 (by decide) rfl (by decide) rfl rfl ?_
      refine a_iload (j := 2) dX5_readTrains_118 rfl ?_
      refine a_iload (j := 0) dX5_readTrains_120 rfl ?_
      refine a_iconst dX5_readTrains_122 ⟨by decide, by decide⟩ ?_
      refine a_bipush dX5_readTrains_123 ⟨by decide, by decide, by decide⟩ ?_
      refine a_callS (d' := d - 1) (mc' := 0) (ms' := 0) (mc1 := 0) (ms1 := 0) (st := [vI ((i : Nat) : Int), vA 70]) [vI (uwF (N (15 + 11 * i))), vI 0, vI 30] dX5_readTrains_125 mwX8_heldWithin lkX5_101 rfl (Nat.le_of_ble_eq_true rfl) (by omega) rfl rfl (c_X8_heldWithin  (by omega)   (show 0 ≤ 30 by omega) ?_)
      show Aj γ mX5_readTrains d 0 0 Post 128 [(6, vI (uwF (N (15 + 11 * i)))), (5, vA (w + 7 + 2 * i)), (4, vI ((i : Nat) : Int)), (3, vN), (2, vN), (0, vA 63), (1, vA w)] [vI (hwF (uwF (N (15 + 11 * i))) 0 30), vI ((i : Nat) : Int), vA 70] (mk (up2 (up2 (up2 (up2 h1 65 i (N (16 + 11 * i))) 66 i (N (17 + 11 * i))) 67 i (N (19 + 11 * i))) 68 i (farF (N (15 + 11 * i)) (N (20 + 11 * i)))) τ)
      refine b_iastore (a := 70) i dX5_readTrains_128 (by decide) rfl rfl (by omega) (sp_nil rfl _) ?_
      refine a_aload_n (j := 3) dX5_readTrains_129 rfl rfl (Nat.le_of_ble_eq_true rfl) ?_
      refine a_ifnull (tgt := 142) dX5_readTrains_130 (by decide) (fun _ => ?_) (fun c => absurd c (by decide))
      refine a_iconst dX5_readTrains_142 ⟨by decide, by decide⟩ ?_
      refine a_goto (tgt := 161) dX5_readTrains_143 (by decide) ?_
      refine a_istore (lv' := [(7, vI 0), (6, vI (uwF (N (15 + 11 * i)))), (5, vA (w + 7 + 2 * i)), (4, vI ((i : Nat) : Int)), (3, vN), (2, vN), (0, vA 63), (1, vA w)]) dX5_readTrains_161 (by decide) rfl ?_
      refine a_aload_n (j := 6) dX5_readTrains_163 rfl rfl (Nat.le_of_ble_eq_true rfl) ?_
      refine b_getp (a := 63) (p := 69) dX5_readTrains_164 fwX5_31 (by decide) rfl (by decide) rfl rfl ?_
      refine a_iload (j := 3) dX5_readTrains_167 rfl ?_
      refine a_aload (j := 2) dX5_readTrains_169 rfl (Nat.le_of_ble_eq_true rfl) ?_
      refine b_get (a := (w + 7 + 2 * i)) (z := N (18 + 11 * i)) (t := 0) dX5_readTrains_171 fwX5_127 (by have := (tr_w hw (show i < 12 by omega)).1; omega) (tr_w hw (show i < 12 by omega)).2.1 (by decide) (tr_s (tr_w hw (show i < 12 by omega)) (by decide)) rfl ((up2_ne (by omega)).trans ((up2_ne (by omega)).trans ((up2_ne (by omega)).trans ((up2_ne (by omega)).trans ((up2_ne (by omega)).trans ((Fr_v hF (by simp only [List.mem_cons, List.not_mem_nil, or_false]; omega)).trans (hR.2.2.1 i (by omega)).2.2.2.1)))))) ?_
      refine a_iload (j := 0) dX5_readTrains_174 rfl ?_
      refine a_iconst dX5_readTrains_176 ⟨by decide, by decide⟩ ?_
      refine a_bipush dX5_readTrains_177 ⟨by decide, by decide, by decide⟩ ?_
      refine a_callS (d' := d - 1) (mc' := 0) (ms' := 0) (mc1 := 0) (ms1 := 0) (st := [vI (N (18 + 11 * i)), vI ((i : Nat) : Int), vA 69]) [vI 0, vI 0, vI 120] dX5_readTrains_179 mwX8_heldWithin lkX5_101 rfl (Nat.le_of_ble_eq_true rfl) (by omega) rfl rfl (c_X8_heldWithin  (by omega)   (show 0 ≤ 120 by omega) ?_)
      show Aj γ mX5_readTrains d 0 0 Post 182 [(7, vI 0), (6, vI (uwF (N (15 + 11 * i)))), (5, vA (w + 7 + 2 * i)), (4, vI ((i : Nat) : Int)), (3, vN), (2, vN), (0, vA 63), (1, vA w)] [vI (hwF 0 0 120), vI (N (18 + 11 * i)), vI ((i : Nat) : Int), vA 69] (mk (up2 (up2 (up2 (up2 (up2 h1 65 i (N (16 + 11 * i))) 66 i (N (17 + 11 * i))) 67 i (N (19 + 11 * i))) 68 i (farF (N (15 + 11 * i)) (N (20 + 11 * i)))) 70 i (hwF (uwF (N (15 + 11 * i))) 0 30)) τ)
      have hwr := hwF_rng (v := 0) (a := 0) (b := 120) (by omega)
      refine a_iadd (z := ((N (18 + 11 * i)) + (hwF 0 0 120))) dX5_readTrains_182 (w_ok (by omega) (by omega)) ?_
      refine b_iastore (a := 69) i dX5_readTrains_183 (by decide) rfl rfl (by omega) (sp_nil rfl _) ?_
      refine a_aload_n (j := 6) dX5_readTrains_184 rfl rfl (Nat.le_of_ble_eq_true rfl) ?_
      refine a_iload (j := 3) dX5_readTrains_185 rfl ?_
      refine a_aload (j := 2) dX5_readTrains_187 rfl (Nat.le_of_ble_eq_true rfl) ?_
      have ra : (up2 (up2 (up2 (up2 (up2 (up2 h1 65 i (N (16 + 11 * i))) 66 i (N (17 + 11 * i))) 67 i (N (19 + 11 * i))) 68 i (farF (N (15 + 11 * i)) (N (20 + 11 * i)))) 70 i (hwF (uwF (N (15 + 11 * i))) 0 30)) 69 i ((N (18 + 11 * i)) + (hwF 0 0 120))) (w + 7 + 2 * i) = h (w + 7 + 2 * i) := ((up2_row (by omega)).trans ((up2_row (by omega)).trans ((up2_row (by omega)).trans ((up2_row (by omega)).trans ((up2_row (by omega)).trans ((up2_row (by omega)).trans ((hF (w + 7 + 2 * i) (by simp only [List.mem_cons, List.not_mem_nil, or_false]; omega)).trans rfl)))))))
      have rb : (up2 (up2 (up2 (up2 (up2 (up2 h1 65 i (N (16 + 11 * i))) 66 i (N (17 + 11 * i))) 67 i (N (19 + 11 * i))) 68 i (farF (N (15 + 11 * i)) (N (20 + 11 * i)))) 70 i (hwF (uwF (N (15 + 11 * i))) 0 30)) 69 i ((N (18 + 11 * i)) + (hwF 0 0 120))) ((w + 7 + 2 * i) + 1) = h ((w + 7 + 2 * i) + 1) := ((up2_row (by omega)).trans ((up2_row (by omega)).trans ((up2_row (by omega)).trans ((up2_row (by omega)).trans ((up2_row (by omega)).trans ((up2_row (by omega)).trans ((hF ((w + 7 + 2 * i) + 1) (by simp only [List.mem_cons, List.not_mem_nil, or_false]; omega)).trans rfl)))))))
      have o65 : ∀ u : Nat, u < i → (up2 (up2 (up2 (up2 (up2 (up2 h1 65 i (N (16 + 11 * i))) 66 i (N (17 + 11 * i))) 67 i (N (19 + 11 * i))) 68 i (farF (N (15 + 11 * i)) (N (20 + 11 * i)))) 70 i (hwF (uwF (N (15 + 11 * i))) 0 30)) 69 i ((N (18 + 11 * i)) + (hwF 0 0 120))) 65 u = h1 65 u := fun u hu => ((up2_ne (by omega)).trans ((up2_ne (by omega)).trans ((up2_ne (by omega)).trans ((up2_ne (by omega)).trans ((up2_ne (by omega)).trans ((up2_ne (by omega)).trans rfl))))))
      have o66 : ∀ u : Nat, u < i → (up2 (up2 (up2 (up2 (up2 (up2 h1 65 i (N (16 + 11 * i))) 66 i (N (17 + 11 * i))) 67 i (N (19 + 11 * i))) 68 i (farF (N (15 + 11 * i)) (N (20 + 11 * i)))) 70 i (hwF (uwF (N (15 + 11 * i))) 0 30)) 69 i ((N (18 + 11 * i)) + (hwF 0 0 120))) 66 u = h1 66 u := fun u hu => ((up2_ne (by omega)).trans ((up2_ne (by omega)).trans ((up2_ne (by omega)).trans ((up2_ne (by omega)).trans ((up2_ne (by omega)).trans ((up2_ne (by omega)).trans rfl))))))
      have o67 : ∀ u : Nat, u < i → (up2 (up2 (up2 (up2 (up2 (up2 h1 65 i (N (16 + 11 * i))) 66 i (N (17 + 11 * i))) 67 i (N (19 + 11 * i))) 68 i (farF (N (15 + 11 * i)) (N (20 + 11 * i)))) 70 i (hwF (uwF (N (15 + 11 * i))) 0 30)) 69 i ((N (18 + 11 * i)) + (hwF 0 0 120))) 67 u = h1 67 u := fun u hu => ((up2_ne (by omega)).trans ((up2_ne (by omega)).trans ((up2_ne (by omega)).trans ((up2_ne (by omega)).trans ((up2_ne (by omega)).trans ((up2_ne (by omega)).trans rfl))))))
      have o68 : ∀ u : Nat, u < i → (up2 (up2 (up2 (up2 (up2 (up2 h1 65 i (N (16 + 11 * i))) 66 i (N (17 + 11 * i))) 67 i (N (19 + 11 * i))) 68 i (farF (N (15 + 11 * i)) (N (20 + 11 * i)))) 70 i (hwF (uwF (N (15 + 11 * i))) 0 30)) 69 i ((N (18 + 11 * i)) + (hwF 0 0 120))) 68 u = h1 68 u := fun u hu => ((up2_ne (by omega)).trans ((up2_ne (by omega)).trans ((up2_ne (by omega)).trans ((up2_ne (by omega)).trans ((up2_ne (by omega)).trans ((up2_ne (by omega)).trans rfl))))))
      have o69 : ∀ u : Nat, u < i → (up2 (up2 (up2 (up2 (up2 (up2 h1 65 i (N (16 + 11 * i))) 66 i (N (17 + 11 * i))) 67 i (N (19 + 11 * i))) 68 i (farF (N (15 + 11 * i)) (N (20 + 11 * i)))) 70 i (hwF (uwF (N (15 + 11 * i))) 0 30)) 69 i ((N (18 + 11 * i)) + (hwF 0 0 120))) 69 u = h1 69 u := fun u hu => ((up2_ne (by omega)).trans ((up2_ne (by omega)).trans ((up2_ne (by omega)).trans ((up2_ne (by omega)).trans ((up2_ne (by omega)).trans ((up2_ne (by omega)).trans rfl))))))
      have o70 : ∀ u : Nat, u < i → (up2 (up2 (up2 (up2 (up2 (up2 h1 65 i (N (16 + 11 * i))) 66 i (N (17 + 11 * i))) 67 i (N (19 + 11 * i))) 68 i (farF (N (15 + 11 * i)) (N (20 + 11 * i)))) 70 i (hwF (uwF (N (15 + 11 * i))) 0 30)) 69 i ((N (18 + 11 * i)) + (hwF 0 0 120))) 70 u = h1 70 u := fun u hu => ((up2_ne (by omega)).trans ((up2_ne (by omega)).trans ((up2_ne (by omega)).trans ((up2_ne (by omega)).trans ((up2_ne (by omega)).trans ((up2_ne (by omega)).trans rfl))))))
      have o71 : ∀ u : Nat, (up2 (up2 (up2 (up2 (up2 (up2 h1 65 i (N (16 + 11 * i))) 66 i (N (17 + 11 * i))) 67 i (N (19 + 11 * i))) 68 i (farF (N (15 + 11 * i)) (N (20 + 11 * i)))) 70 i (hwF (uwF (N (15 + 11 * i))) 0 30)) 69 i ((N (18 + 11 * i)) + (hwF 0 0 120))) 71 u = h1 71 u := fun u => ((up2_ne (by omega)).trans ((up2_ne (by omega)).trans ((up2_ne (by omega)).trans ((up2_ne (by omega)).trans ((up2_ne (by omega)).trans ((up2_ne (by omega)).trans rfl))))))
      have o72 : ∀ u : Nat, (up2 (up2 (up2 (up2 (up2 (up2 h1 65 i (N (16 + 11 * i))) 66 i (N (17 + 11 * i))) 67 i (N (19 + 11 * i))) 68 i (farF (N (15 + 11 * i)) (N (20 + 11 * i)))) 70 i (hwF (uwF (N (15 + 11 * i))) 0 30)) 69 i ((N (18 + 11 * i)) + (hwF 0 0 120))) 72 u = h1 72 u := fun u => ((up2_ne (by omega)).trans ((up2_ne (by omega)).trans ((up2_ne (by omega)).trans ((up2_ne (by omega)).trans ((up2_ne (by omega)).trans ((up2_ne (by omega)).trans rfl))))))
      have n65 : (up2 (up2 (up2 (up2 (up2 (up2 h1 65 i (N (16 + 11 * i))) 66 i (N (17 + 11 * i))) 67 i (N (19 + 11 * i))) 68 i (farF (N (15 + 11 * i)) (N (20 + 11 * i)))) 70 i (hwF (uwF (N (15 + 11 * i))) 0 30)) 69 i ((N (18 + 11 * i)) + (hwF 0 0 120))) 65 i = N (16 + 11 * i) := ((up2_ne (by omega)).trans ((up2_ne (by omega)).trans ((up2_ne (by omega)).trans ((up2_ne (by omega)).trans ((up2_ne (by omega)).trans up2_at)))))
      have n66 : (up2 (up2 (up2 (up2 (up2 (up2 h1 65 i (N (16 + 11 * i))) 66 i (N (17 + 11 * i))) 67 i (N (19 + 11 * i))) 68 i (farF (N (15 + 11 * i)) (N (20 + 11 * i)))) 70 i (hwF (uwF (N (15 + 11 * i))) 0 30)) 69 i ((N (18 + 11 * i)) + (hwF 0 0 120))) 66 i = N (17 + 11 * i) := ((up2_ne (by omega)).trans ((up2_ne (by omega)).trans ((up2_ne (by omega)).trans ((up2_ne (by omega)).trans up2_at))))
      have n67 : (up2 (up2 (up2 (up2 (up2 (up2 h1 65 i (N (16 + 11 * i))) 66 i (N (17 + 11 * i))) 67 i (N (19 + 11 * i))) 68 i (farF (N (15 + 11 * i)) (N (20 + 11 * i)))) 70 i (hwF (uwF (N (15 + 11 * i))) 0 30)) 69 i ((N (18 + 11 * i)) + (hwF 0 0 120))) 67 i = N (19 + 11 * i) := ((up2_ne (by omega)).trans ((up2_ne (by omega)).trans ((up2_ne (by omega)).trans up2_at)))
      have n68 : (up2 (up2 (up2 (up2 (up2 (up2 h1 65 i (N (16 + 11 * i))) 66 i (N (17 + 11 * i))) 67 i (N (19 + 11 * i))) 68 i (farF (N (15 + 11 * i)) (N (20 + 11 * i)))) 70 i (hwF (uwF (N (15 + 11 * i))) 0 30)) 69 i ((N (18 + 11 * i)) + (hwF 0 0 120))) 68 i = (farF (N (15 + 11 * i)) (N (20 + 11 * i))) := ((up2_ne (by omega)).trans ((up2_ne (by omega)).trans up2_at))
      have n69 : (up2 (up2 (up2 (up2 (up2 (up2 h1 65 i (N (16 + 11 * i))) 66 i (N (17 + 11 * i))) 67 i (N (19 + 11 * i))) 68 i (farF (N (15 + 11 * i)) (N (20 + 11 * i)))) 70 i (hwF (uwF (N (15 + 11 * i))) 0 30)) 69 i ((N (18 + 11 * i)) + (hwF 0 0 120))) 69 i = ((N (18 + 11 * i)) + (hwF 0 0 120)) := up2_at
      have n70 : (up2 (up2 (up2 (up2 (up2 (up2 h1 65 i (N (16 + 11 * i))) 66 i (N (17 + 11 * i))) 67 i (N (19 + 11 * i))) 68 i (farF (N (15 + 11 * i)) (N (20 + 11 * i)))) 70 i (hwF (uwF (N (15 + 11 * i))) 0 30)) 69 i ((N (18 + 11 * i)) + (hwF 0 0 120))) 70 i = (hwF (uwF (N (15 + 11 * i))) 0 30) := ((up2_ne (by omega)).trans up2_at)
      have hwt : (hwF (uwF (N (15 + 11 * i))) 0 30) = wtN N i := by
        have := uwF_rng (N (15 + 11 * i))
        unfold wtN; rw [if_pos cq, hwF_id (by omega) (by omega)]
      have hgo : ((N (18 + 11 * i)) + (hwF 0 0 120)) = goN N i := by
        unfold goN
        have e : tdN N i = 0 := by unfold tdN; rw [if_pos cu]
        rw [e]; split <;> rfl
      refine b_callV (d' := d - 1) (mc' := 0) (ms' := 0) (mc1 := 0) (ms1 := 0) (st := []) (b := 63) [vI ((i : Nat) : Int), vA (w + 7 + 2 * i)] dX5_readTrains_189 mwX5_readSteps lkX5_130 (by decide) rfl rc_X5 rfl (Nat.le_of_ble_eq_true rfl) (by omega) rfl rfl (c_X5_readSteps (N := N) (by omega) (tr_w hw (show i < 12 by omega)) (by omega) (by omega) (trW_fr ra rb (hR.2.2.1 i (by omega))) hr (n69.trans hgo) (fun u hu => ⟨(o69 u hu).trans (iv u hu).2.2.2.2.1, goN_rng (hv.2.2.1 u (by omega))⟩) (fun u hu s hs => (o72 _).trans (iw u hu s hs).2) (fun h9 hG9 j1 j2 => ?_))
      show Aj γ mX5_readTrains d 0 0 Post 192 [(7, vI 0), (6, vI (uwF (N (15 + 11 * i)))), (5, vA (w + 7 + 2 * i)), (4, vI ((i : Nat) : Int)), (3, vN), (2, vN), (0, vA 63), (1, vA w)] [] (mk h9 τ)
      refine a_iinc (j := 3) (z' := ((i + 1 : Nat) : Int)) (lv' := [(4, vI ((i + 1 : Nat) : Int)), (7, vI 0), (6, vI (uwF (N (15 + 11 * i)))), (5, vA (w + 7 + 2 * i)), (3, vN), (2, vN), (0, vA 63), (1, vA w)]) dX5_readTrains_192 rfl (w_okN (by omega) (by omega) (by omega)) (by decide) rfl ?_
      refine a_goto (tgt := 15) dX5_readTrains_195 (by decide) ?_
      refine a_lv (lv' := [(4, vI (((i + 1) : Nat) : Int)), (3, vN), (2, vN), (0, vA 63), (1, vA w)]) (by intro q hq; simp only [List.mem_cons, List.not_mem_nil, or_false] at hq ⊢; rcases hq with rfl | rfl | rfl | rfl | rfl <;> simp) (ih (i + 1) h9  (by omega) (by omega) (Fr_t (Fr_u (by decide) (Fr_u (by decide) (Fr_u (by decide) (Fr_u (by decide) (Fr_u (by decide) (Fr_u (by decide) (Fr_m (by decide) hF))))))) (Fr_m (by decide) hG9)) (fun u hu => by
          rw [Fr_v hG9 (by decide), Fr_v hG9 (by decide), Fr_v hG9 (by decide), Fr_v hG9 (by decide), Fr_v hG9 (by decide), Fr_v hG9 (by decide)]
          by_cases c : u = i
          · subst c; exact ⟨n65, n66, n67, n68, n69.trans hgo, n70.trans hwt⟩
          · rw [o65 u (by omega), o66 u (by omega), o67 u (by omega), o68 u (by omega), o69 u (by omega), o70 u (by omega)]; exact iv u (by omega)) (fun u hu s hs => by
          by_cases c : u = i
          · subst c; exact j1 s hs
          · rw [(j2 _ (by omega)).1, (j2 _ (by omega)).2, o71, o72]; exact iw u (by omega) s hs))
set_option maxHeartbeats 8000000 in
theorem l_rtNS {γ : GT} {d : Nat} {w n q u ctq ctu : Nat} {N : Nat → Int} {h : Nat → Nat → Int} {τ : List AC} {Post : Option AV → List AC → Prop} (hd : 3 ≤ d) (hw : isWd w) (hR : WR h τ w N) (hv : NV N) (hn3 : h 63 3 = ((n : Nat) : Int)) (hn : N 5 = ((n : Nat) : Int)) (hn12 : n ≤ 12) (cq : cnN N 0 < 0) (hctu : cnN N 1 = (ctu : Int)) (hxu : TX τ N ctu u) (kE : ∀ h', Fr [65, 66, 67, 68, 69, 70, 71, 72, 75] h h' → (∀ u : Nat, u < n → h' 65 u = N (16 + 11 * u) ∧ h' 66 u = N (17 + 11 * u) ∧ h' 67 u = N (19 + 11 * u) ∧ h' 68 u = farF (N (15 + 11 * u)) (N (20 + 11 * u)) ∧ h' 69 u = goN N u ∧ h' 70 u = wtN N u) → (∀ u : Nat, u < n → ∀ s : Nat, s < 4 → h' 71 (4 * u + s) = N (22 + 11 * u + s) ∧ h' 72 (4 * u + s) = goN N u + dlN N u s) → Post none (mk h' τ)) :
    ∀ (f i : Nat) (h1 : Nat → Nat → Int), i ≤ n → n < i + f → Fr [65, 66, 67, 68, 69, 70, 71, 72, 75] h h1 → (∀ u : Nat, u < i → h1 65 u = N (16 + 11 * u) ∧ h1 66 u = N (17 + 11 * u) ∧ h1 67 u = N (19 + 11 * u) ∧ h1 68 u = farF (N (15 + 11 * u)) (N (20 + 11 * u)) ∧ h1 69 u = goN N u ∧ h1 70 u = wtN N u) → (∀ u : Nat, u < i → ∀ s : Nat, s < 4 → h1 71 (4 * u + s) = N (22 + 11 * u + s) ∧ h1 72 (4 * u + s) = goN N u + dlN N u s) → Aj γ mX5_readTrains d 0 0 Post 15 [(4, vI ((i : Nat) : Int)), (3, vA (154 + u)), (2, vN), (0, vA 63), (1, vA w)] [] (mk h1 τ) := by
  intro f
  induction f with
  | zero => intro i h1  h1_ h2_; omega
  | succ f ih =>
    intro i h1  h1_ h2_ hF iv iw
    have hw_ : w = 1 ∨ w = 32 := hw
    have hx1 := hv.2.2.2.1
    have hcn := cnN_rng hv.2.2.2 0
    have hcn1 := cnN_rng hv.2.2.2 1
    refine a_iload (j := 0) dX5_readTrains_15 rfl ?_
    refine a_aload_n (j := 3) dX5_readTrains_17 rfl rfl (Nat.le_of_ble_eq_true rfl) ?_
    refine b_get (a := 63) (z := ((n : Nat) : Int)) (t := 0) dX5_readTrains_18 fwX5_73 (by decide) rfl (by decide) rfl rfl ((Fr_v hF (by decide)).trans hn3) ?_
    refine a_icmp_ge (tgt := 198) dX5_readTrains_21 (by decide) (fun c21_1 => ?_) (fun c21_1 => ?_)
    · exact a_vret dX5_readTrains_198 rfl (kE _ hF (fun u hu => iv u (by omega)) (fun u hu => iw u (by omega)))
    · have hr : trR N i := hv.2.2.1 i (by omega)
      have hr1 := hr.1
      have hr4 := hr.2.2.2.1
      have hr6 := hr.2.2.2.2.2.1
      refine a_aload_n (j := 4) dX5_readTrains_24 rfl rfl (Nat.le_of_ble_eq_true rfl) ?_
      refine b_getp (a := w) (p := (w + 2)) dX5_readTrains_25 fwX5_105 (by rcases hw with rfl | rfl <;> decide) (by rcases hw with rfl | rfl <;> rfl) (by decide) (by rcases hw with rfl | rfl <;> rfl) rfl ?_
      refine a_iload (j := 0) dX5_readTrains_28 rfl ?_
      refine b_aaloadp (a := (w + 2)) (p := (w + 7 + 2 * i)) i dX5_readTrains_30 (by rcases hw with rfl | rfl <;> decide) (by rcases hw with rfl | rfl <;> rfl) qa_18 rfl (by omega) (tr_a hw (show i < 12 by omega)) ?_
      refine a_astore (lv' := [(5, vA (w + 7 + 2 * i)), (4, vI ((i : Nat) : Int)), (3, vA (154 + u)), (2, vN), (0, vA 63), (1, vA w)]) dX5_readTrains_31 (by decide) (Nat.le_of_ble_eq_true rfl) rfl ?_
      refine a_aload_n (j := 4) dX5_readTrains_33 rfl rfl (Nat.le_of_ble_eq_true rfl) ?_
      refine b_getp (a := 63) (p := 65) dX5_readTrains_34 fwX5_19 (by decide) rfl (by decide) rfl rfl ?_
      refine a_iload (j := 1) dX5_readTrains_37 rfl ?_
      refine a_aload (j := 0) dX5_readTrains_39 rfl (Nat.le_of_ble_eq_true rfl) ?_
      refine b_get (a := (w + 7 + 2 * i)) (z := N (16 + 11 * i)) (t := 0) dX5_readTrains_41 fwX5_109 (by have := (tr_w hw (show i < 12 by omega)).1; omega) (tr_w hw (show i < 12 by omega)).2.1 (by decide) (tr_s (tr_w hw (show i < 12 by omega)) (by decide)) rfl ((Fr_v hF (by simp only [List.mem_cons, List.not_mem_nil, or_false]; omega)).trans (hR.2.2.1 i (by omega)).2.1) ?_
      refine b_iastore (a := 65) i dX5_readTrains_44 (by decide) rfl rfl (by omega) (sp_nil rfl _) ?_
      refine a_aload_n (j := 4) dX5_readTrains_45 rfl rfl (Nat.le_of_ble_eq_true rfl) ?_
      refine b_getp (a := 63) (p := 66) dX5_readTrains_46 fwX5_22 (by decide) rfl (by decide) rfl rfl ?_
      refine a_iload (j := 1) dX5_readTrains_49 rfl ?_
      refine a_aload (j := 0) dX5_readTrains_51 rfl (Nat.le_of_ble_eq_true rfl) ?_
      refine b_get (a := (w + 7 + 2 * i)) (z := N (17 + 11 * i)) (t := 0) dX5_readTrains_53 fwX5_113 (by have := (tr_w hw (show i < 12 by omega)).1; omega) (tr_w hw (show i < 12 by omega)).2.1 (by decide) (tr_s (tr_w hw (show i < 12 by omega)) (by decide)) rfl ((up2_ne (by omega)).trans ((Fr_v hF (by simp only [List.mem_cons, List.not_mem_nil, or_false]; omega)).trans (hR.2.2.1 i (by omega)).2.2.1)) ?_
      refine b_iastore (a := 66) i dX5_readTrains_56 (by decide) rfl rfl (by omega) (sp_nil rfl _) ?_
      refine a_aload_n (j := 4) dX5_readTrains_57 rfl rfl (Nat.le_of_ble_eq_true rfl) ?_
      refine b_getp (a := 63) (p := 67) dX5_readTrains_58 fwX5_25 (by decide) rfl (by decide) rfl rfl ?_
      refine a_iload (j := 1) dX5_readTrains_61 rfl ?_
      refine a_aload (j := 0) dX5_readTrains_63 rfl (Nat.le_of_ble_eq_true rfl) ?_
      refine b_get (a := (w + 7 + 2 * i)) (z := N (19 + 11 * i)) (t := 0) dX5_readTrains_65 fwX5_115 (by have := (tr_w hw (show i < 12 by omega)).1; omega) (tr_w hw (show i < 12 by omega)).2.1 (by decide) (tr_s (tr_w hw (show i < 12 by omega)) (by decide)) rfl ((up2_ne (by omega)).trans ((up2_ne (by omega)).trans ((Fr_v hF (by simp only [List.mem_cons, List.not_mem_nil, or_false]; omega)).trans (hR.2.2.1 i (by omega)).2.2.2.2.1))) ?_
      refine b_iastore (a := 67) i dX5_readTrains_68 (by decide) rfl rfl (by omega) (sp_nil rfl _) ?_
      refine a_aload_n (j := 4) dX5_readTrains_69 rfl rfl (Nat.le_of_ble_eq_true rfl) ?_
      refine b_getp (a := 63) (p := 68) dX5_readTrains_70 fwX5_28 (by decide) rfl (by decide) rfl rfl ?_
      refine a_iload (j := 1) dX5_readTrains_73 rfl ?_
      refine a_aload (j := 0) dX5_readTrains_75 rfl (Nat.le_of_ble_eq_true rfl) ?_
      refine b_callV (d' := d - 1) (mc' := 0) (ms' := 0) (mc1 := 0) (ms1 := 0) (st := [vI ((i : Nat) : Int), vA 68]) (b := (w + 7 + 2 * i)) [] dX5_readTrains_77 mwX6_fare lkX5_117 (by have := (tr_w hw (show i < 12 by omega)).1; omega) (tr_w hw (show i < 12 by omega)).2.1 rc_X6 rfl (Nat.le_of_ble_eq_true rfl) (by omega) rfl rfl (c_X6_fare (v1 := (N (20 + 11 * i))) (v2 := (N (15 + 11 * i))) (by omega) (tr_w hw (show i < 12 by omega)) ((up2_ne (by omega)).trans ((up2_ne (by omega)).trans ((up2_ne (by omega)).trans ((Fr_v hF (by simp only [List.mem_cons, List.not_mem_nil, or_false]; omega)).trans (hR.2.2.1 i (by omega)).2.2.2.2.2.1)))) ((up2_ne (by omega)).trans ((up2_ne (by omega)).trans ((up2_ne (by omega)).trans ((Fr_v hF (by simp only [List.mem_cons, List.not_mem_nil, or_false]; omega)).trans (hR.2.2.1 i (by omega)).1)))) (show 0 ≤ (N (20 + 11 * i)) ∧ (N (20 + 11 * i)) ≤ 999 by omega) ?_)
      show Aj γ mX5_readTrains d 0 0 Post 80 [(5, vA (w + 7 + 2 * i)), (4, vI ((i : Nat) : Int)), (3, vA (154 + u)), (2, vN), (0, vA 63), (1, vA w)] [vI (farF (N (15 + 11 * i)) (N (20 + 11 * i))), vI ((i : Nat) : Int), vA 68] (mk (up2 (up2 (up2 h1 65 i (N (16 + 11 * i))) 66 i (N (17 + 11 * i))) 67 i (N (19 + 11 * i))) τ)
      refine b_iastore (a := 68) i dX5_readTrains_80 (by decide) rfl rfl (by omega) (sp_nil rfl _) ?_
      refine a_aload_n (j := 3) dX5_readTrains_81 rfl rfl (Nat.le_of_ble_eq_true rfl) ?_
      refine a_ifnonnull (tgt := 93) dX5_readTrains_82 (by decide) (fun c => absurd c (by decide)) (fun _ => ?_)
      refine a_aload (j := 0) dX5_readTrains_85 rfl (Nat.le_of_ble_eq_true rfl) ?_
      refine b_callV (d' := d - 1) (mc' := 0) (ms' := 0) (mc1 := 0) (ms1 := 0) (st := []) (b := (w + 7 + 2 * i)) [] dX5_readTrains_87 mwX6_usualWait lkX5_121 (by have := (tr_w hw (show i < 12 by omega)).1; omega) (tr_w hw (show i < 12 by omega)).2.1 rc_X6 rfl (Nat.le_of_ble_eq_true rfl) (by omega) rfl rfl (c_X6_usualWait (v1 := (N (15 + 11 * i))) (by omega) (tr_w hw (show i < 12 by omega)) ((up2_ne (by omega)).trans ((up2_ne (by omega)).trans ((up2_ne (by omega)).trans ((up2_ne (by omega)).trans ((Fr_v hF (by simp only [List.mem_cons, List.not_mem_nil, or_false]; omega)).trans (hR.2.2.1 i (by omega)).1)))))  ?_)
      show Aj γ mX5_readTrains d 0 0 Post 90 [(5, vA (w + 7 + 2 * i)), (4, vI ((i : Nat) : Int)), (3, vA (154 + u)), (2, vN), (0, vA 63), (1, vA w)] [vI (uwF (N (15 + 11 * i)))] (mk (up2 (up2 (up2 (up2 h1 65 i (N (16 + 11 * i))) 66 i (N (17 + 11 * i))) 67 i (N (19 + 11 * i))) 68 i (farF (N (15 + 11 * i)) (N (20 + 11 * i)))) τ)
      refine a_goto (tgt := 112) dX5_readTrains_90 (by decide) ?_
      refine a_istore (lv' := [(6, vI (uwF (N (15 + 11 * i)))), (5, vA (w + 7 + 2 * i)), (4, vI ((i : Nat) : Int)), (3, vA (154 + u)), (2, vN), (0, vA 63), (1, vA w)]) dX5_readTrains_112 (by decide) rfl ?_
      refine a_aload_n (j := 5) dX5_readTrains_114 rfl rfl (Nat.le_of_ble_eq_true rfl) ?_
      refine b_getp (a := 63) (p := 70) dX5_readTrains_115 fwX5_34 (by decide) rfl (by decide) rfl rfl ?_
      refine a_iload (j := 2) dX5_readTrains_118 rfl ?_
      refine a_iload (j := 0) dX5_readTrains_120 rfl ?_
      refine a_iconst dX5_readTrains_122 ⟨by decide, by decide⟩ ?_
      refine a_bipush dX5_readTrains_123 ⟨by decide, by decide, by decide⟩ ?_
      refine a_callS (d' := d - 1) (mc' := 0) (ms' := 0) (mc1 := 0) (ms1 := 0) (st := [vI ((i : Nat) : Int), vA 70]) [vI (uwF (N (15 + 11 * i))), vI 0, vI 30] dX5_readTrains_125 mwX8_heldWithin lkX5_101 rfl (Nat.le_of_ble_eq_true rfl) (by omega) rfl rfl (c_X8_heldWithin  (by omega)   (show 0 ≤ 30 by omega) ?_)
      show Aj γ mX5_readTrains d 0 0 Post 128 [(6, vI (uwF (N (15 + 11 * i)))), (5, vA (w + 7 + 2 * i)), (4, vI ((i : Nat) : Int)), (3, vA (154 + u)), (2, vN), (0, vA 63), (1, vA w)] [vI (hwF (uwF (N (15 + 11 * i))) 0 30), vI ((i : Nat) : Int), vA 70] (mk (up2 (up2 (up2 (up2 h1 65 i (N (16 + 11 * i))) 66 i (N (17 + 11 * i))) 67 i (N (19 + 11 * i))) 68 i (farF (N (15 + 11 * i)) (N (20 + 11 * i)))) τ)
      refine b_iastore (a := 70) i dX5_readTrains_128 (by decide) rfl rfl (by omega) (sp_nil rfl _) ?_
      refine a_aload_n (j := 3) dX5_readTrains_129 rfl rfl (Nat.le_of_ble_eq_true rfl) ?_
      refine a_ifnull (tgt := 142) dX5_readTrains_130 (by decide) (fun c => absurd c (by omega)) (fun _ => ?_)
      refine a_aload (j := 1) dX5_readTrains_133 rfl (Nat.le_of_ble_eq_true rfl) ?_
      refine b_get (a := (w + 7 + 2 * i)) (z := N (15 + 11 * i)) (t := 0) dX5_readTrains_135 fwX5_124 (by have := (tr_w hw (show i < 12 by omega)).1; omega) (tr_w hw (show i < 12 by omega)).2.1 (by decide) (tr_s (tr_w hw (show i < 12 by omega)) (by decide)) rfl ((up2_ne (by omega)).trans ((up2_ne (by omega)).trans ((up2_ne (by omega)).trans ((up2_ne (by omega)).trans ((up2_ne (by omega)).trans ((Fr_v hF (by simp only [List.mem_cons, List.not_mem_nil, or_false]; omega)).trans (hR.2.2.1 i (by omega)).1)))))) ?_
      refine a_iconst dX5_readTrains_138 ⟨by decide, by decide⟩ ?_
      refine a_icmp_eq (tgt := 146) dX5_readTrains_139 (by decide) (fun c139_2 => ?_) (fun c139_2 => ?_)
      · refine a_aload_n (j := 3) dX5_readTrains_146 rfl rfl (Nat.le_of_ble_eq_true rfl) ?_
        refine a_aload_n (j := 5) dX5_readTrains_147 rfl rfl (Nat.le_of_ble_eq_true rfl) ?_
        refine b_getp (a := 63) (p := 75) dX5_readTrains_148 fwX5_49 (by decide) rfl (by decide) rfl rfl ?_
        refine a_iload (j := 2) dX5_readTrains_151 rfl ?_
        refine a_aload_n (j := 6) dX5_readTrains_153 rfl rfl (Nat.le_of_ble_eq_true rfl) ?_
        refine b_get (a := w) (z := N 1) (t := 0) dX5_readTrains_154 fwX5_92 (by rcases hw with rfl | rfl <;> decide) (by rcases hw with rfl | rfl <;> rfl) (by decide) (by rcases hw with rfl | rfl <;> rfl) rfl ((up2_ne (by omega)).trans ((up2_ne (by omega)).trans ((up2_ne (by omega)).trans ((up2_ne (by omega)).trans ((up2_ne (by omega)).trans ((Fr_v hF (by simp only [List.mem_cons, List.not_mem_nil, or_false]; omega)).trans hR.1.2.2.2.2.2.2.1)))))) ?_
        refine a_iconst dX5_readTrains_157 ⟨by decide, by decide⟩ ?_
        obtain ⟨ftu, hqu, hqu_⟩ := id hxu
        refine a_callV (d' := d - 1) (mc' := 0) (ms' := 0) (mc1 := 0) (ms1 := 0) (st := []) (b := (154 + u)) (κ := 4) (n := 3) (f := ftu) [vA 75, vI ((i : Nat) : Int), vI (N 1), vI 0] dX5_readTrains_158 mwX4_worth lkX5_95 ((mk_dyn u).trans hqu) rc_X4 rfl (Nat.le_of_ble_eq_true rfl) (by omega) rfl rfl (c_X4_worthN (N := N) (t := ctu) (by omega) hv.2.2.2 (by omega) hxu (fun g3 => ?_))
        show Aj γ mX5_readTrains d 0 0 Post 161 [(6, vI (uwF (N (15 + 11 * i)))), (5, vA (w + 7 + 2 * i)), (4, vI ((i : Nat) : Int)), (3, vA (154 + u)), (2, vN), (0, vA 63), (1, vA w)] [vI (woN N ctu (fc3 ((i : Nat) : Int) (N 1) 0))] (mk (upR (up2 (up2 (up2 (up2 (up2 h1 65 i (N (16 + 11 * i))) 66 i (N (17 + 11 * i))) 67 i (N (19 + 11 * i))) 68 i (farF (N (15 + 11 * i)) (N (20 + 11 * i)))) 70 i (hwF (uwF (N (15 + 11 * i))) 0 30)) 75 g3) τ)
        refine a_istore (lv' := [(7, vI (woN N ctu (fc3 ((i : Nat) : Int) (N 1) 0))), (6, vI (uwF (N (15 + 11 * i)))), (5, vA (w + 7 + 2 * i)), (4, vI ((i : Nat) : Int)), (3, vA (154 + u)), (2, vN), (0, vA 63), (1, vA w)]) dX5_readTrains_161 (by decide) rfl ?_
        refine a_aload_n (j := 6) dX5_readTrains_163 rfl rfl (Nat.le_of_ble_eq_true rfl) ?_
        refine b_getp (a := 63) (p := 69) dX5_readTrains_164 fwX5_31 (by decide) rfl (by decide) rfl rfl ?_
        refine a_iload (j := 3) dX5_readTrains_167 rfl ?_
        refine a_aload (j := 2) dX5_readTrains_169 rfl (Nat.le_of_ble_eq_true rfl) ?_
        refine b_get (a := (w + 7 + 2 * i)) (z := N (18 + 11 * i)) (t := 0) dX5_readTrains_171 fwX5_127 (by have := (tr_w hw (show i < 12 by omega)).1; omega) (tr_w hw (show i < 12 by omega)).2.1 (by decide) (tr_s (tr_w hw (show i < 12 by omega)) (by decide)) rfl ((upR_ne (by omega)).trans ((up2_ne (by omega)).trans ((up2_ne (by omega)).trans ((up2_ne (by omega)).trans ((up2_ne (by omega)).trans ((up2_ne (by omega)).trans ((Fr_v hF (by simp only [List.mem_cons, List.not_mem_nil, or_false]; omega)).trans (hR.2.2.1 i (by omega)).2.2.2.1))))))) ?_
        refine a_iload (j := 0) dX5_readTrains_174 rfl ?_
        refine a_iconst dX5_readTrains_176 ⟨by decide, by decide⟩ ?_
        refine a_bipush dX5_readTrains_177 ⟨by decide, by decide, by decide⟩ ?_
        refine a_callS (d' := d - 1) (mc' := 0) (ms' := 0) (mc1 := 0) (ms1 := 0) (st := [vI (N (18 + 11 * i)), vI ((i : Nat) : Int), vA 69]) [vI (woN N ctu (fc3 ((i : Nat) : Int) (N 1) 0)), vI 0, vI 120] dX5_readTrains_179 mwX8_heldWithin lkX5_101 rfl (Nat.le_of_ble_eq_true rfl) (by omega) rfl rfl (c_X8_heldWithin  (by omega)   (show 0 ≤ 120 by omega) ?_)
        show Aj γ mX5_readTrains d 0 0 Post 182 [(7, vI (woN N ctu (fc3 ((i : Nat) : Int) (N 1) 0))), (6, vI (uwF (N (15 + 11 * i)))), (5, vA (w + 7 + 2 * i)), (4, vI ((i : Nat) : Int)), (3, vA (154 + u)), (2, vN), (0, vA 63), (1, vA w)] [vI (hwF (woN N ctu (fc3 ((i : Nat) : Int) (N 1) 0)) 0 120), vI (N (18 + 11 * i)), vI ((i : Nat) : Int), vA 69] (mk (upR (up2 (up2 (up2 (up2 (up2 h1 65 i (N (16 + 11 * i))) 66 i (N (17 + 11 * i))) 67 i (N (19 + 11 * i))) 68 i (farF (N (15 + 11 * i)) (N (20 + 11 * i)))) 70 i (hwF (uwF (N (15 + 11 * i))) 0 30)) 75 g3) τ)
        have hwr := hwF_rng (v := (woN N ctu (fc3 ((i : Nat) : Int) (N 1) 0))) (a := 0) (b := 120) (by omega)
        refine a_iadd (z := ((N (18 + 11 * i)) + (hwF (woN N ctu (fc3 ((i : Nat) : Int) (N 1) 0)) 0 120))) dX5_readTrains_182 (w_ok (by omega) (by omega)) ?_
        refine b_iastore (a := 69) i dX5_readTrains_183 (by decide) rfl rfl (by omega) (sp_nil rfl _) ?_
        refine a_aload_n (j := 6) dX5_readTrains_184 rfl rfl (Nat.le_of_ble_eq_true rfl) ?_
        refine a_iload (j := 3) dX5_readTrains_185 rfl ?_
        refine a_aload (j := 2) dX5_readTrains_187 rfl (Nat.le_of_ble_eq_true rfl) ?_
        have ra : (up2 (upR (up2 (up2 (up2 (up2 (up2 h1 65 i (N (16 + 11 * i))) 66 i (N (17 + 11 * i))) 67 i (N (19 + 11 * i))) 68 i (farF (N (15 + 11 * i)) (N (20 + 11 * i)))) 70 i (hwF (uwF (N (15 + 11 * i))) 0 30)) 75 g3) 69 i ((N (18 + 11 * i)) + (hwF (woN N ctu (fc3 ((i : Nat) : Int) (N 1) 0)) 0 120))) (w + 7 + 2 * i) = h (w + 7 + 2 * i) := ((up2_row (by omega)).trans ((upR_rn (by omega)).trans ((up2_row (by omega)).trans ((up2_row (by omega)).trans ((up2_row (by omega)).trans ((up2_row (by omega)).trans ((up2_row (by omega)).trans ((hF (w + 7 + 2 * i) (by simp only [List.mem_cons, List.not_mem_nil, or_false]; omega)).trans rfl))))))))
        have rb : (up2 (upR (up2 (up2 (up2 (up2 (up2 h1 65 i (N (16 + 11 * i))) 66 i (N (17 + 11 * i))) 67 i (N (19 + 11 * i))) 68 i (farF (N (15 + 11 * i)) (N (20 + 11 * i)))) 70 i (hwF (uwF (N (15 + 11 * i))) 0 30)) 75 g3) 69 i ((N (18 + 11 * i)) + (hwF (woN N ctu (fc3 ((i : Nat) : Int) (N 1) 0)) 0 120))) ((w + 7 + 2 * i) + 1) = h ((w + 7 + 2 * i) + 1) := ((up2_row (by omega)).trans ((upR_rn (by omega)).trans ((up2_row (by omega)).trans ((up2_row (by omega)).trans ((up2_row (by omega)).trans ((up2_row (by omega)).trans ((up2_row (by omega)).trans ((hF ((w + 7 + 2 * i) + 1) (by simp only [List.mem_cons, List.not_mem_nil, or_false]; omega)).trans rfl))))))))
        have o65 : ∀ u : Nat, u < i → (up2 (upR (up2 (up2 (up2 (up2 (up2 h1 65 i (N (16 + 11 * i))) 66 i (N (17 + 11 * i))) 67 i (N (19 + 11 * i))) 68 i (farF (N (15 + 11 * i)) (N (20 + 11 * i)))) 70 i (hwF (uwF (N (15 + 11 * i))) 0 30)) 75 g3) 69 i ((N (18 + 11 * i)) + (hwF (woN N ctu (fc3 ((i : Nat) : Int) (N 1) 0)) 0 120))) 65 u = h1 65 u := fun u hu => ((up2_ne (by omega)).trans ((upR_ne (by omega)).trans ((up2_ne (by omega)).trans ((up2_ne (by omega)).trans ((up2_ne (by omega)).trans ((up2_ne (by omega)).trans ((up2_ne (by omega)).trans rfl)))))))
        have o66 : ∀ u : Nat, u < i → (up2 (upR (up2 (up2 (up2 (up2 (up2 h1 65 i (N (16 + 11 * i))) 66 i (N (17 + 11 * i))) 67 i (N (19 + 11 * i))) 68 i (farF (N (15 + 11 * i)) (N (20 + 11 * i)))) 70 i (hwF (uwF (N (15 + 11 * i))) 0 30)) 75 g3) 69 i ((N (18 + 11 * i)) + (hwF (woN N ctu (fc3 ((i : Nat) : Int) (N 1) 0)) 0 120))) 66 u = h1 66 u := fun u hu => ((up2_ne (by omega)).trans ((upR_ne (by omega)).trans ((up2_ne (by omega)).trans ((up2_ne (by omega)).trans ((up2_ne (by omega)).trans ((up2_ne (by omega)).trans ((up2_ne (by omega)).trans rfl)))))))
        have o67 : ∀ u : Nat, u < i → (up2 (upR (up2 (up2 (up2 (up2 (up2 h1 65 i (N (16 + 11 * i))) 66 i (N (17 + 11 * i))) 67 i (N (19 + 11 * i))) 68 i (farF (N (15 + 11 * i)) (N (20 + 11 * i)))) 70 i (hwF (uwF (N (15 + 11 * i))) 0 30)) 75 g3) 69 i ((N (18 + 11 * i)) + (hwF (woN N ctu (fc3 ((i : Nat) : Int) (N 1) 0)) 0 120))) 67 u = h1 67 u := fun u hu => ((up2_ne (by omega)).trans ((upR_ne (by omega)).trans ((up2_ne (by omega)).trans ((up2_ne (by omega)).trans ((up2_ne (by omega)).trans ((up2_ne (by omega)).trans ((up2_ne (by omega)).trans rfl)))))))
        have o68 : ∀ u : Nat, u < i → (up2 (upR (up2 (up2 (up2 (up2 (up2 h1 65 i (N (16 + 11 * i))) 66 i (N (17 + 11 * i))) 67 i (N (19 + 11 * i))) 68 i (farF (N (15 + 11 * i)) (N (20 + 11 * i)))) 70 i (hwF (uwF (N (15 + 11 * i))) 0 30)) 75 g3) 69 i ((N (18 + 11 * i)) + (hwF (woN N ctu (fc3 ((i : Nat) : Int) (N 1) 0)) 0 120))) 68 u = h1 68 u := fun u hu => ((up2_ne (by omega)).trans ((upR_ne (by omega)).trans ((up2_ne (by omega)).trans ((up2_ne (by omega)).trans ((up2_ne (by omega)).trans ((up2_ne (by omega)).trans ((up2_ne (by omega)).trans rfl)))))))
        have o69 : ∀ u : Nat, u < i → (up2 (upR (up2 (up2 (up2 (up2 (up2 h1 65 i (N (16 + 11 * i))) 66 i (N (17 + 11 * i))) 67 i (N (19 + 11 * i))) 68 i (farF (N (15 + 11 * i)) (N (20 + 11 * i)))) 70 i (hwF (uwF (N (15 + 11 * i))) 0 30)) 75 g3) 69 i ((N (18 + 11 * i)) + (hwF (woN N ctu (fc3 ((i : Nat) : Int) (N 1) 0)) 0 120))) 69 u = h1 69 u := fun u hu => ((up2_ne (by omega)).trans ((upR_ne (by omega)).trans ((up2_ne (by omega)).trans ((up2_ne (by omega)).trans ((up2_ne (by omega)).trans ((up2_ne (by omega)).trans ((up2_ne (by omega)).trans rfl)))))))
        have o70 : ∀ u : Nat, u < i → (up2 (upR (up2 (up2 (up2 (up2 (up2 h1 65 i (N (16 + 11 * i))) 66 i (N (17 + 11 * i))) 67 i (N (19 + 11 * i))) 68 i (farF (N (15 + 11 * i)) (N (20 + 11 * i)))) 70 i (hwF (uwF (N (15 + 11 * i))) 0 30)) 75 g3) 69 i ((N (18 + 11 * i)) + (hwF (woN N ctu (fc3 ((i : Nat) : Int) (N 1) 0)) 0 120))) 70 u = h1 70 u := fun u hu => ((up2_ne (by omega)).trans ((upR_ne (by omega)).trans ((up2_ne (by omega)).trans ((up2_ne (by omega)).trans ((up2_ne (by omega)).trans ((up2_ne (by omega)).trans ((up2_ne (by omega)).trans rfl)))))))
        have o71 : ∀ u : Nat, (up2 (upR (up2 (up2 (up2 (up2 (up2 h1 65 i (N (16 + 11 * i))) 66 i (N (17 + 11 * i))) 67 i (N (19 + 11 * i))) 68 i (farF (N (15 + 11 * i)) (N (20 + 11 * i)))) 70 i (hwF (uwF (N (15 + 11 * i))) 0 30)) 75 g3) 69 i ((N (18 + 11 * i)) + (hwF (woN N ctu (fc3 ((i : Nat) : Int) (N 1) 0)) 0 120))) 71 u = h1 71 u := fun u => ((up2_ne (by omega)).trans ((upR_ne (by omega)).trans ((up2_ne (by omega)).trans ((up2_ne (by omega)).trans ((up2_ne (by omega)).trans ((up2_ne (by omega)).trans ((up2_ne (by omega)).trans rfl)))))))
        have o72 : ∀ u : Nat, (up2 (upR (up2 (up2 (up2 (up2 (up2 h1 65 i (N (16 + 11 * i))) 66 i (N (17 + 11 * i))) 67 i (N (19 + 11 * i))) 68 i (farF (N (15 + 11 * i)) (N (20 + 11 * i)))) 70 i (hwF (uwF (N (15 + 11 * i))) 0 30)) 75 g3) 69 i ((N (18 + 11 * i)) + (hwF (woN N ctu (fc3 ((i : Nat) : Int) (N 1) 0)) 0 120))) 72 u = h1 72 u := fun u => ((up2_ne (by omega)).trans ((upR_ne (by omega)).trans ((up2_ne (by omega)).trans ((up2_ne (by omega)).trans ((up2_ne (by omega)).trans ((up2_ne (by omega)).trans ((up2_ne (by omega)).trans rfl)))))))
        have n65 : (up2 (upR (up2 (up2 (up2 (up2 (up2 h1 65 i (N (16 + 11 * i))) 66 i (N (17 + 11 * i))) 67 i (N (19 + 11 * i))) 68 i (farF (N (15 + 11 * i)) (N (20 + 11 * i)))) 70 i (hwF (uwF (N (15 + 11 * i))) 0 30)) 75 g3) 69 i ((N (18 + 11 * i)) + (hwF (woN N ctu (fc3 ((i : Nat) : Int) (N 1) 0)) 0 120))) 65 i = N (16 + 11 * i) := ((up2_ne (by omega)).trans ((upR_ne (by omega)).trans ((up2_ne (by omega)).trans ((up2_ne (by omega)).trans ((up2_ne (by omega)).trans ((up2_ne (by omega)).trans up2_at))))))
        have n66 : (up2 (upR (up2 (up2 (up2 (up2 (up2 h1 65 i (N (16 + 11 * i))) 66 i (N (17 + 11 * i))) 67 i (N (19 + 11 * i))) 68 i (farF (N (15 + 11 * i)) (N (20 + 11 * i)))) 70 i (hwF (uwF (N (15 + 11 * i))) 0 30)) 75 g3) 69 i ((N (18 + 11 * i)) + (hwF (woN N ctu (fc3 ((i : Nat) : Int) (N 1) 0)) 0 120))) 66 i = N (17 + 11 * i) := ((up2_ne (by omega)).trans ((upR_ne (by omega)).trans ((up2_ne (by omega)).trans ((up2_ne (by omega)).trans ((up2_ne (by omega)).trans up2_at)))))
        have n67 : (up2 (upR (up2 (up2 (up2 (up2 (up2 h1 65 i (N (16 + 11 * i))) 66 i (N (17 + 11 * i))) 67 i (N (19 + 11 * i))) 68 i (farF (N (15 + 11 * i)) (N (20 + 11 * i)))) 70 i (hwF (uwF (N (15 + 11 * i))) 0 30)) 75 g3) 69 i ((N (18 + 11 * i)) + (hwF (woN N ctu (fc3 ((i : Nat) : Int) (N 1) 0)) 0 120))) 67 i = N (19 + 11 * i) := ((up2_ne (by omega)).trans ((upR_ne (by omega)).trans ((up2_ne (by omega)).trans ((up2_ne (by omega)).trans up2_at))))
        have n68 : (up2 (upR (up2 (up2 (up2 (up2 (up2 h1 65 i (N (16 + 11 * i))) 66 i (N (17 + 11 * i))) 67 i (N (19 + 11 * i))) 68 i (farF (N (15 + 11 * i)) (N (20 + 11 * i)))) 70 i (hwF (uwF (N (15 + 11 * i))) 0 30)) 75 g3) 69 i ((N (18 + 11 * i)) + (hwF (woN N ctu (fc3 ((i : Nat) : Int) (N 1) 0)) 0 120))) 68 i = (farF (N (15 + 11 * i)) (N (20 + 11 * i))) := ((up2_ne (by omega)).trans ((upR_ne (by omega)).trans ((up2_ne (by omega)).trans up2_at)))
        have n69 : (up2 (upR (up2 (up2 (up2 (up2 (up2 h1 65 i (N (16 + 11 * i))) 66 i (N (17 + 11 * i))) 67 i (N (19 + 11 * i))) 68 i (farF (N (15 + 11 * i)) (N (20 + 11 * i)))) 70 i (hwF (uwF (N (15 + 11 * i))) 0 30)) 75 g3) 69 i ((N (18 + 11 * i)) + (hwF (woN N ctu (fc3 ((i : Nat) : Int) (N 1) 0)) 0 120))) 69 i = ((N (18 + 11 * i)) + (hwF (woN N ctu (fc3 ((i : Nat) : Int) (N 1) 0)) 0 120)) := up2_at
        have n70 : (up2 (upR (up2 (up2 (up2 (up2 (up2 h1 65 i (N (16 + 11 * i))) 66 i (N (17 + 11 * i))) 67 i (N (19 + 11 * i))) 68 i (farF (N (15 + 11 * i)) (N (20 + 11 * i)))) 70 i (hwF (uwF (N (15 + 11 * i))) 0 30)) 75 g3) 69 i ((N (18 + 11 * i)) + (hwF (woN N ctu (fc3 ((i : Nat) : Int) (N 1) 0)) 0 120))) 70 i = (hwF (uwF (N (15 + 11 * i))) 0 30) := ((up2_ne (by omega)).trans ((upR_ne (by omega)).trans up2_at))
        have hwt : (hwF (uwF (N (15 + 11 * i))) 0 30) = wtN N i := by
          have := uwF_rng (N (15 + 11 * i))
          unfold wtN; rw [if_pos cq, hwF_id (by omega) (by omega)]
        have hgo : ((N (18 + 11 * i)) + (hwF (woN N ctu (fc3 ((i : Nat) : Int) (N 1) 0)) 0 120)) = goN N i := by
          unfold goN
          have e : tdN N i = hwF (woN N ctu (fc3 i (N 1) 0)) 0 120 := by unfold tdN; rw [if_neg (by omega), hctu]; rfl
          first | (rw [if_pos (by omega), e]; done) | (rw [if_neg (by omega)]; rfl)
        refine b_callV (d' := d - 1) (mc' := 0) (ms' := 0) (mc1 := 0) (ms1 := 0) (st := []) (b := 63) [vI ((i : Nat) : Int), vA (w + 7 + 2 * i)] dX5_readTrains_189 mwX5_readSteps lkX5_130 (by decide) rfl rc_X5 rfl (Nat.le_of_ble_eq_true rfl) (by omega) rfl rfl (c_X5_readSteps (N := N) (by omega) (tr_w hw (show i < 12 by omega)) (by omega) (by omega) (trW_fr ra rb (hR.2.2.1 i (by omega))) hr (n69.trans hgo) (fun u hu => ⟨(o69 u hu).trans (iv u hu).2.2.2.2.1, goN_rng (hv.2.2.1 u (by omega))⟩) (fun u hu s hs => (o72 _).trans (iw u hu s hs).2) (fun h9 hG9 j1 j2 => ?_))
        show Aj γ mX5_readTrains d 0 0 Post 192 [(7, vI (woN N ctu (fc3 ((i : Nat) : Int) (N 1) 0))), (6, vI (uwF (N (15 + 11 * i)))), (5, vA (w + 7 + 2 * i)), (4, vI ((i : Nat) : Int)), (3, vA (154 + u)), (2, vN), (0, vA 63), (1, vA w)] [] (mk h9 τ)
        refine a_iinc (j := 3) (z' := ((i + 1 : Nat) : Int)) (lv' := [(4, vI ((i + 1 : Nat) : Int)), (7, vI (woN N ctu (fc3 ((i : Nat) : Int) (N 1) 0))), (6, vI (uwF (N (15 + 11 * i)))), (5, vA (w + 7 + 2 * i)), (3, vA (154 + u)), (2, vN), (0, vA 63), (1, vA w)]) dX5_readTrains_192 rfl (w_okN (by omega) (by omega) (by omega)) (by decide) rfl ?_
        refine a_goto (tgt := 15) dX5_readTrains_195 (by decide) ?_
        refine a_lv (lv' := [(4, vI (((i + 1) : Nat) : Int)), (3, vA (154 + u)), (2, vN), (0, vA 63), (1, vA w)]) (by intro q hq; simp only [List.mem_cons, List.not_mem_nil, or_false] at hq ⊢; rcases hq with rfl | rfl | rfl | rfl | rfl <;> simp) (ih (i + 1) h9  (by omega) (by omega) (Fr_t (Fr_u (by decide) (Fr_R (by decide) (Fr_u (by decide) (Fr_u (by decide) (Fr_u (by decide) (Fr_u (by decide) (Fr_u (by decide) (Fr_m (by decide) hF)))))))) (Fr_m (by decide) hG9)) (fun u hu => by
          rw [Fr_v hG9 (by decide), Fr_v hG9 (by decide), Fr_v hG9 (by decide), Fr_v hG9 (by decide), Fr_v hG9 (by decide), Fr_v hG9 (by decide)]
          by_cases c : u = i
          · subst c; exact ⟨n65, n66, n67, n68, n69.trans hgo, n70.trans hwt⟩
          · rw [o65 u (by omega), o66 u (by omega), o67 u (by omega), o68 u (by omega), o69 u (by omega), o70 u (by omega)]; exact iv u (by omega)) (fun u hu s hs => by
          by_cases c : u = i
          · subst c; exact j1 s hs
          · rw [(j2 _ (by omega)).1, (j2 _ (by omega)).2, o71, o72]; exact iw u (by omega) s hs))
      · refine a_iconst dX5_readTrains_142 ⟨by decide, by decide⟩ ?_
        refine a_goto (tgt := 161) dX5_readTrains_143 (by decide) ?_
        refine a_istore (lv' := [(7, vI 0), (6, vI (uwF (N (15 + 11 * i)))), (5, vA (w + 7 + 2 * i)), (4, vI ((i : Nat) : Int)), (3, vA (154 + u)), (2, vN), (0, vA 63), (1, vA w)]) dX5_readTrains_161 (by decide) rfl ?_
        refine a_aload_n (j := 6) dX5_readTrains_163 rfl rfl (Nat.le_of_ble_eq_true rfl) ?_
        refine b_getp (a := 63) (p := 69) dX5_readTrains_164 fwX5_31 (by decide) rfl (by decide) rfl rfl ?_
        refine a_iload (j := 3) dX5_readTrains_167 rfl ?_
        refine a_aload (j := 2) dX5_readTrains_169 rfl (Nat.le_of_ble_eq_true rfl) ?_
        refine b_get (a := (w + 7 + 2 * i)) (z := N (18 + 11 * i)) (t := 0) dX5_readTrains_171 fwX5_127 (by have := (tr_w hw (show i < 12 by omega)).1; omega) (tr_w hw (show i < 12 by omega)).2.1 (by decide) (tr_s (tr_w hw (show i < 12 by omega)) (by decide)) rfl ((up2_ne (by omega)).trans ((up2_ne (by omega)).trans ((up2_ne (by omega)).trans ((up2_ne (by omega)).trans ((up2_ne (by omega)).trans ((Fr_v hF (by simp only [List.mem_cons, List.not_mem_nil, or_false]; omega)).trans (hR.2.2.1 i (by omega)).2.2.2.1)))))) ?_
        refine a_iload (j := 0) dX5_readTrains_174 rfl ?_
        refine a_iconst dX5_readTrains_176 ⟨by decide, by decide⟩ ?_
        refine a_bipush dX5_readTrains_177 ⟨by decide, by decide, by decide⟩ ?_
        refine a_callS (d' := d - 1) (mc' := 0) (ms' := 0) (mc1 := 0) (ms1 := 0) (st := [vI (N (18 + 11 * i)), vI ((i : Nat) : Int), vA 69]) [vI 0, vI 0, vI 120] dX5_readTrains_179 mwX8_heldWithin lkX5_101 rfl (Nat.le_of_ble_eq_true rfl) (by omega) rfl rfl (c_X8_heldWithin  (by omega)   (show 0 ≤ 120 by omega) ?_)
        show Aj γ mX5_readTrains d 0 0 Post 182 [(7, vI 0), (6, vI (uwF (N (15 + 11 * i)))), (5, vA (w + 7 + 2 * i)), (4, vI ((i : Nat) : Int)), (3, vA (154 + u)), (2, vN), (0, vA 63), (1, vA w)] [vI (hwF 0 0 120), vI (N (18 + 11 * i)), vI ((i : Nat) : Int), vA 69] (mk (up2 (up2 (up2 (up2 (up2 h1 65 i (N (16 + 11 * i))) 66 i (N (17 + 11 * i))) 67 i (N (19 + 11 * i))) 68 i (farF (N (15 + 11 * i)) (N (20 + 11 * i)))) 70 i (hwF (uwF (N (15 + 11 * i))) 0 30)) τ)
        have hwr := hwF_rng (v := 0) (a := 0) (b := 120) (by omega)
        refine a_iadd (z := ((N (18 + 11 * i)) + (hwF 0 0 120))) dX5_readTrains_182 (w_ok (by omega) (by omega)) ?_
        refine b_iastore (a := 69) i dX5_readTrains_183 (by decide) rfl rfl (by omega) (sp_nil rfl _) ?_
        refine a_aload_n (j := 6) dX5_readTrains_184 rfl rfl (Nat.le_of_ble_eq_true rfl) ?_
        refine a_iload (j := 3) dX5_readTrains_185 rfl ?_
        refine a_aload (j := 2) dX5_readTrains_187 rfl (Nat.le_of_ble_eq_true rfl) ?_
        have ra : (up2 (up2 (up2 (up2 (up2 (up2 h1 65 i (N (16 + 11 * i))) 66 i (N (17 + 11 * i))) 67 i (N (19 + 11 * i))) 68 i (farF (N (15 + 11 * i)) (N (20 + 11 * i)))) 70 i (hwF (uwF (N (15 + 11 * i))) 0 30)) 69 i ((N (18 + 11 * i)) + (hwF 0 0 120))) (w + 7 + 2 * i) = h (w + 7 + 2 * i) := ((up2_row (by omega)).trans ((up2_row (by omega)).trans ((up2_row (by omega)).trans ((up2_row (by omega)).trans ((up2_row (by omega)).trans ((up2_row (by omega)).trans ((hF (w + 7 + 2 * i) (by simp only [List.mem_cons, List.not_mem_nil, or_false]; omega)).trans rfl)))))))
        have rb : (up2 (up2 (up2 (up2 (up2 (up2 h1 65 i (N (16 + 11 * i))) 66 i (N (17 + 11 * i))) 67 i (N (19 + 11 * i))) 68 i (farF (N (15 + 11 * i)) (N (20 + 11 * i)))) 70 i (hwF (uwF (N (15 + 11 * i))) 0 30)) 69 i ((N (18 + 11 * i)) + (hwF 0 0 120))) ((w + 7 + 2 * i) + 1) = h ((w + 7 + 2 * i) + 1) := ((up2_row (by omega)).trans ((up2_row (by omega)).trans ((up2_row (by omega)).trans ((up2_row (by omega)).trans ((up2_row (by omega)).trans ((up2_row (by omega)).trans ((hF ((w + 7 + 2 * i) + 1) (by simp only [List.mem_cons, List.not_mem_nil, or_false]; omega)).trans rfl)))))))
        have o65 : ∀ u : Nat, u < i → (up2 (up2 (up2 (up2 (up2 (up2 h1 65 i (N (16 + 11 * i))) 66 i (N (17 + 11 * i))) 67 i (N (19 + 11 * i))) 68 i (farF (N (15 + 11 * i)) (N (20 + 11 * i)))) 70 i (hwF (uwF (N (15 + 11 * i))) 0 30)) 69 i ((N (18 + 11 * i)) + (hwF 0 0 120))) 65 u = h1 65 u := fun u hu => ((up2_ne (by omega)).trans ((up2_ne (by omega)).trans ((up2_ne (by omega)).trans ((up2_ne (by omega)).trans ((up2_ne (by omega)).trans ((up2_ne (by omega)).trans rfl))))))
        have o66 : ∀ u : Nat, u < i → (up2 (up2 (up2 (up2 (up2 (up2 h1 65 i (N (16 + 11 * i))) 66 i (N (17 + 11 * i))) 67 i (N (19 + 11 * i))) 68 i (farF (N (15 + 11 * i)) (N (20 + 11 * i)))) 70 i (hwF (uwF (N (15 + 11 * i))) 0 30)) 69 i ((N (18 + 11 * i)) + (hwF 0 0 120))) 66 u = h1 66 u := fun u hu => ((up2_ne (by omega)).trans ((up2_ne (by omega)).trans ((up2_ne (by omega)).trans ((up2_ne (by omega)).trans ((up2_ne (by omega)).trans ((up2_ne (by omega)).trans rfl))))))
        have o67 : ∀ u : Nat, u < i → (up2 (up2 (up2 (up2 (up2 (up2 h1 65 i (N (16 + 11 * i))) 66 i (N (17 + 11 * i))) 67 i (N (19 + 11 * i))) 68 i (farF (N (15 + 11 * i)) (N (20 + 11 * i)))) 70 i (hwF (uwF (N (15 + 11 * i))) 0 30)) 69 i ((N (18 + 11 * i)) + (hwF 0 0 120))) 67 u = h1 67 u := fun u hu => ((up2_ne (by omega)).trans ((up2_ne (by omega)).trans ((up2_ne (by omega)).trans ((up2_ne (by omega)).trans ((up2_ne (by omega)).trans ((up2_ne (by omega)).trans rfl))))))
        have o68 : ∀ u : Nat, u < i → (up2 (up2 (up2 (up2 (up2 (up2 h1 65 i (N (16 + 11 * i))) 66 i (N (17 + 11 * i))) 67 i (N (19 + 11 * i))) 68 i (farF (N (15 + 11 * i)) (N (20 + 11 * i)))) 70 i (hwF (uwF (N (15 + 11 * i))) 0 30)) 69 i ((N (18 + 11 * i)) + (hwF 0 0 120))) 68 u = h1 68 u := fun u hu => ((up2_ne (by omega)).trans ((up2_ne (by omega)).trans ((up2_ne (by omega)).trans ((up2_ne (by omega)).trans ((up2_ne (by omega)).trans ((up2_ne (by omega)).trans rfl))))))
        have o69 : ∀ u : Nat, u < i → (up2 (up2 (up2 (up2 (up2 (up2 h1 65 i (N (16 + 11 * i))) 66 i (N (17 + 11 * i))) 67 i (N (19 + 11 * i))) 68 i (farF (N (15 + 11 * i)) (N (20 + 11 * i)))) 70 i (hwF (uwF (N (15 + 11 * i))) 0 30)) 69 i ((N (18 + 11 * i)) + (hwF 0 0 120))) 69 u = h1 69 u := fun u hu => ((up2_ne (by omega)).trans ((up2_ne (by omega)).trans ((up2_ne (by omega)).trans ((up2_ne (by omega)).trans ((up2_ne (by omega)).trans ((up2_ne (by omega)).trans rfl))))))
        have o70 : ∀ u : Nat, u < i → (up2 (up2 (up2 (up2 (up2 (up2 h1 65 i (N (16 + 11 * i))) 66 i (N (17 + 11 * i))) 67 i (N (19 + 11 * i))) 68 i (farF (N (15 + 11 * i)) (N (20 + 11 * i)))) 70 i (hwF (uwF (N (15 + 11 * i))) 0 30)) 69 i ((N (18 + 11 * i)) + (hwF 0 0 120))) 70 u = h1 70 u := fun u hu => ((up2_ne (by omega)).trans ((up2_ne (by omega)).trans ((up2_ne (by omega)).trans ((up2_ne (by omega)).trans ((up2_ne (by omega)).trans ((up2_ne (by omega)).trans rfl))))))
        have o71 : ∀ u : Nat, (up2 (up2 (up2 (up2 (up2 (up2 h1 65 i (N (16 + 11 * i))) 66 i (N (17 + 11 * i))) 67 i (N (19 + 11 * i))) 68 i (farF (N (15 + 11 * i)) (N (20 + 11 * i)))) 70 i (hwF (uwF (N (15 + 11 * i))) 0 30)) 69 i ((N (18 + 11 * i)) + (hwF 0 0 120))) 71 u = h1 71 u := fun u => ((up2_ne (by omega)).trans ((up2_ne (by omega)).trans ((up2_ne (by omega)).trans ((up2_ne (by omega)).trans ((up2_ne (by omega)).trans ((up2_ne (by omega)).trans rfl))))))
        have o72 : ∀ u : Nat, (up2 (up2 (up2 (up2 (up2 (up2 h1 65 i (N (16 + 11 * i))) 66 i (N (17 + 11 * i))) 67 i (N (19 + 11 * i))) 68 i (farF (N (15 + 11 * i)) (N (20 + 11 * i)))) 70 i (hwF (uwF (N (15 + 11 * i))) 0 30)) 69 i ((N (18 + 11 * i)) + (hwF 0 0 120))) 72 u = h1 72 u := fun u => ((up2_ne (by omega)).trans ((up2_ne (by omega)).trans ((up2_ne (by omega)).trans ((up2_ne (by omega)).trans ((up2_ne (by omega)).trans ((up2_ne (by omega)).trans rfl))))))
        have n65 : (up2 (up2 (up2 (up2 (up2 (up2 h1 65 i (N (16 + 11 * i))) 66 i (N (17 + 11 * i))) 67 i (N (19 + 11 * i))) 68 i (farF (N (15 + 11 * i)) (N (20 + 11 * i)))) 70 i (hwF (uwF (N (15 + 11 * i))) 0 30)) 69 i ((N (18 + 11 * i)) + (hwF 0 0 120))) 65 i = N (16 + 11 * i) := ((up2_ne (by omega)).trans ((up2_ne (by omega)).trans ((up2_ne (by omega)).trans ((up2_ne (by omega)).trans ((up2_ne (by omega)).trans up2_at)))))
        have n66 : (up2 (up2 (up2 (up2 (up2 (up2 h1 65 i (N (16 + 11 * i))) 66 i (N (17 + 11 * i))) 67 i (N (19 + 11 * i))) 68 i (farF (N (15 + 11 * i)) (N (20 + 11 * i)))) 70 i (hwF (uwF (N (15 + 11 * i))) 0 30)) 69 i ((N (18 + 11 * i)) + (hwF 0 0 120))) 66 i = N (17 + 11 * i) := ((up2_ne (by omega)).trans ((up2_ne (by omega)).trans ((up2_ne (by omega)).trans ((up2_ne (by omega)).trans up2_at))))
        have n67 : (up2 (up2 (up2 (up2 (up2 (up2 h1 65 i (N (16 + 11 * i))) 66 i (N (17 + 11 * i))) 67 i (N (19 + 11 * i))) 68 i (farF (N (15 + 11 * i)) (N (20 + 11 * i)))) 70 i (hwF (uwF (N (15 + 11 * i))) 0 30)) 69 i ((N (18 + 11 * i)) + (hwF 0 0 120))) 67 i = N (19 + 11 * i) := ((up2_ne (by omega)).trans ((up2_ne (by omega)).trans ((up2_ne (by omega)).trans up2_at)))
        have n68 : (up2 (up2 (up2 (up2 (up2 (up2 h1 65 i (N (16 + 11 * i))) 66 i (N (17 + 11 * i))) 67 i (N (19 + 11 * i))) 68 i (farF (N (15 + 11 * i)) (N (20 + 11 * i)))) 70 i (hwF (uwF (N (15 + 11 * i))) 0 30)) 69 i ((N (18 + 11 * i)) + (hwF 0 0 120))) 68 i = (farF (N (15 + 11 * i)) (N (20 + 11 * i))) := ((up2_ne (by omega)).trans ((up2_ne (by omega)).trans up2_at))
        have n69 : (up2 (up2 (up2 (up2 (up2 (up2 h1 65 i (N (16 + 11 * i))) 66 i (N (17 + 11 * i))) 67 i (N (19 + 11 * i))) 68 i (farF (N (15 + 11 * i)) (N (20 + 11 * i)))) 70 i (hwF (uwF (N (15 + 11 * i))) 0 30)) 69 i ((N (18 + 11 * i)) + (hwF 0 0 120))) 69 i = ((N (18 + 11 * i)) + (hwF 0 0 120)) := up2_at
        have n70 : (up2 (up2 (up2 (up2 (up2 (up2 h1 65 i (N (16 + 11 * i))) 66 i (N (17 + 11 * i))) 67 i (N (19 + 11 * i))) 68 i (farF (N (15 + 11 * i)) (N (20 + 11 * i)))) 70 i (hwF (uwF (N (15 + 11 * i))) 0 30)) 69 i ((N (18 + 11 * i)) + (hwF 0 0 120))) 70 i = (hwF (uwF (N (15 + 11 * i))) 0 30) := ((up2_ne (by omega)).trans up2_at)
        have hwt : (hwF (uwF (N (15 + 11 * i))) 0 30) = wtN N i := by
          have := uwF_rng (N (15 + 11 * i))
          unfold wtN; rw [if_pos cq, hwF_id (by omega) (by omega)]
        have hgo : ((N (18 + 11 * i)) + (hwF 0 0 120)) = goN N i := by
          unfold goN
          have e : tdN N i = hwF (woN N ctu (fc3 i (N 1) 0)) 0 120 := by unfold tdN; rw [if_neg (by omega), hctu]; rfl
          first | (rw [if_pos (by omega), e]; done) | (rw [if_neg (by omega)]; rfl)
        refine b_callV (d' := d - 1) (mc' := 0) (ms' := 0) (mc1 := 0) (ms1 := 0) (st := []) (b := 63) [vI ((i : Nat) : Int), vA (w + 7 + 2 * i)] dX5_readTrains_189 mwX5_readSteps lkX5_130 (by decide) rfl rc_X5 rfl (Nat.le_of_ble_eq_true rfl) (by omega) rfl rfl (c_X5_readSteps (N := N) (by omega) (tr_w hw (show i < 12 by omega)) (by omega) (by omega) (trW_fr ra rb (hR.2.2.1 i (by omega))) hr (n69.trans hgo) (fun u hu => ⟨(o69 u hu).trans (iv u hu).2.2.2.2.1, goN_rng (hv.2.2.1 u (by omega))⟩) (fun u hu s hs => (o72 _).trans (iw u hu s hs).2) (fun h9 hG9 j1 j2 => ?_))
        show Aj γ mX5_readTrains d 0 0 Post 192 [(7, vI 0), (6, vI (uwF (N (15 + 11 * i)))), (5, vA (w + 7 + 2 * i)), (4, vI ((i : Nat) : Int)), (3, vA (154 + u)), (2, vN), (0, vA 63), (1, vA w)] [] (mk h9 τ)
        refine a_iinc (j := 3) (z' := ((i + 1 : Nat) : Int)) (lv' := [(4, vI ((i + 1 : Nat) : Int)), (7, vI 0), (6, vI (uwF (N (15 + 11 * i)))), (5, vA (w + 7 + 2 * i)), (3, vA (154 + u)), (2, vN), (0, vA 63), (1, vA w)]) dX5_readTrains_192 rfl (w_okN (by omega) (by omega) (by omega)) (by decide) rfl ?_
        refine a_goto (tgt := 15) dX5_readTrains_195 (by decide) ?_
        refine a_lv (lv' := [(4, vI (((i + 1) : Nat) : Int)), (3, vA (154 + u)), (2, vN), (0, vA 63), (1, vA w)]) (by intro q hq; simp only [List.mem_cons, List.not_mem_nil, or_false] at hq ⊢; rcases hq with rfl | rfl | rfl | rfl | rfl <;> simp) (ih (i + 1) h9  (by omega) (by omega) (Fr_t (Fr_u (by decide) (Fr_u (by decide) (Fr_u (by decide) (Fr_u (by decide) (Fr_u (by decide) (Fr_u (by decide) (Fr_m (by decide) hF))))))) (Fr_m (by decide) hG9)) (fun u hu => by
          rw [Fr_v hG9 (by decide), Fr_v hG9 (by decide), Fr_v hG9 (by decide), Fr_v hG9 (by decide), Fr_v hG9 (by decide), Fr_v hG9 (by decide)]
          by_cases c : u = i
          · subst c; exact ⟨n65, n66, n67, n68, n69.trans hgo, n70.trans hwt⟩
          · rw [o65 u (by omega), o66 u (by omega), o67 u (by omega), o68 u (by omega), o69 u (by omega), o70 u (by omega)]; exact iv u (by omega)) (fun u hu s hs => by
          by_cases c : u = i
          · subst c; exact j1 s hs
          · rw [(j2 _ (by omega)).1, (j2 _ (by omega)).2, o71, o72]; exact iw u (by omega) s hs))
set_option maxHeartbeats 8000000 in
theorem l_rtSN {γ : GT} {d : Nat} {w n q u ctq ctu : Nat} {N : Nat → Int} {h : Nat → Nat → Int} {τ : List AC} {Post : Option AV → List AC → Prop} (hd : 3 ≤ d) (hw : isWd w) (hR : WR h τ w N) (hv : NV N) (hn3 : h 63 3 = ((n : Nat) : Int)) (hn : N 5 = ((n : Nat) : Int)) (hn12 : n ≤ 12) (hctq : cnN N 0 = (ctq : Int)) (hxq : TX τ N ctq q) (cu : cnN N 1 < 0) (kE : ∀ h', Fr [65, 66, 67, 68, 69, 70, 71, 72, 75] h h' → (∀ u : Nat, u < n → h' 65 u = N (16 + 11 * u) ∧ h' 66 u = N (17 + 11 * u) ∧ h' 67 u = N (19 + 11 * u) ∧ h' 68 u = farF (N (15 + 11 * u)) (N (20 + 11 * u)) ∧ h' 69 u = goN N u ∧ h' 70 u = wtN N u) → (∀ u : Nat, u < n → ∀ s : Nat, s < 4 → h' 71 (4 * u + s) = N (22 + 11 * u + s) ∧ h' 72 (4 * u + s) = goN N u + dlN N u s) → Post none (mk h' τ)) :
    ∀ (f i : Nat) (h1 : Nat → Nat → Int), i ≤ n → n < i + f → Fr [65, 66, 67, 68, 69, 70, 71, 72, 75] h h1 → (∀ u : Nat, u < i → h1 65 u = N (16 + 11 * u) ∧ h1 66 u = N (17 + 11 * u) ∧ h1 67 u = N (19 + 11 * u) ∧ h1 68 u = farF (N (15 + 11 * u)) (N (20 + 11 * u)) ∧ h1 69 u = goN N u ∧ h1 70 u = wtN N u) → (∀ u : Nat, u < i → ∀ s : Nat, s < 4 → h1 71 (4 * u + s) = N (22 + 11 * u + s) ∧ h1 72 (4 * u + s) = goN N u + dlN N u s) → Aj γ mX5_readTrains d 0 0 Post 15 [(4, vI ((i : Nat) : Int)), (3, vN), (2, vA (154 + q)), (0, vA 63), (1, vA w)] [] (mk h1 τ) := by
  intro f
  induction f with
  | zero => intro i h1  h1_ h2_; omega
  | succ f ih =>
    intro i h1  h1_ h2_ hF iv iw
    have hw_ : w = 1 ∨ w = 32 := hw
    have hx1 := hv.2.2.2.1
    have hcn := cnN_rng hv.2.2.2 0
    have hcn1 := cnN_rng hv.2.2.2 1
    refine a_iload (j := 0) dX5_readTrains_15 rfl ?_
    refine a_aload_n (j := 3) dX5_readTrains_17 rfl rfl (Nat.le_of_ble_eq_true rfl) ?_
    refine b_get (a := 63) (z := ((n : Nat) : Int)) (t := 0) dX5_readTrains_18 fwX5_73 (by decide) rfl (by decide) rfl rfl ((Fr_v hF (by decide)).trans hn3) ?_
    refine a_icmp_ge (tgt := 198) dX5_readTrains_21 (by decide) (fun c21_1 => ?_) (fun c21_1 => ?_)
    · exact a_vret dX5_readTrains_198 rfl (kE _ hF (fun u hu => iv u (by omega)) (fun u hu => iw u (by omega)))
    · have hr : trR N i := hv.2.2.1 i (by omega)
      have hr1 := hr.1
      have hr4 := hr.2.2.2.1
      have hr6 := hr.2.2.2.2.2.1
      refine a_aload_n (j := 4) dX5_readTrains_24 rfl rfl (Nat.le_of_ble_eq_true rfl) ?_
      refine b_getp (a := w) (p := (w + 2)) dX5_readTrains_25 fwX5_105 (by rcases hw with rfl | rfl <;> decide) (by rcases hw with rfl | rfl <;> rfl) (by decide) (by rcases hw with rfl | rfl <;> rfl) rfl ?_
      refine a_iload (j := 0) dX5_readTrains_28 rfl ?_
      refine b_aaloadp (a := (w + 2)) (p := (w + 7 + 2 * i)) i dX5_readTrains_30 (by rcases hw with rfl | rfl <;> decide) (by rcases hw with rfl | rfl <;> rfl) qa_18 rfl (by omega) (tr_a hw (show i < 12 by omega)) ?_
      refine a_astore (lv' := [(5, vA (w + 7 + 2 * i)), (4, vI ((i : Nat) : Int)), (3, vN), (2, vA (154 + q)), (0, vA 63), (1, vA w)]) dX5_readTrains_31 (by decide) (Nat.le_of_ble_eq_true rfl) rfl ?_
      refine a_aload_n (j := 4) dX5_readTrains_33 rfl rfl (Nat.le_of_ble_eq_true rfl) ?_
      refine b_getp (a := 63) (p := 65) dX5_readTrains_34 fwX5_19 (by decide) rfl (by decide) rfl rfl ?_
      refine a_iload (j := 1) dX5_readTrains_37 rfl ?_
      refine a_aload (j := 0) dX5_readTrains_39 rfl (Nat.le_of_ble_eq_true rfl) ?_
      refine b_get (a := (w + 7 + 2 * i)) (z := N (16 + 11 * i)) (t := 0) dX5_readTrains_41 fwX5_109 (by have := (tr_w hw (show i < 12 by omega)).1; omega) (tr_w hw (show i < 12 by omega)).2.1 (by decide) (tr_s (tr_w hw (show i < 12 by omega)) (by decide)) rfl ((Fr_v hF (by simp only [List.mem_cons, List.not_mem_nil, or_false]; omega)).trans (hR.2.2.1 i (by omega)).2.1) ?_
      refine b_iastore (a := 65) i dX5_readTrains_44 (by decide) rfl rfl (by omega) (sp_nil rfl _) ?_
      refine a_aload_n (j := 4) dX5_readTrains_45 rfl rfl (Nat.le_of_ble_eq_true rfl) ?_
      refine b_getp (a := 63) (p := 66) dX5_readTrains_46 fwX5_22 (by decide) rfl (by decide) rfl rfl ?_
      refine a_iload (j := 1) dX5_readTrains_49 rfl ?_
      refine a_aload (j := 0) dX5_readTrains_51 rfl (Nat.le_of_ble_eq_true rfl) ?_
      refine b_get (a := (w + 7 + 2 * i)) (z := N (17 + 11 * i)) (t := 0) dX5_readTrains_53 fwX5_113 (by have := (tr_w hw (show i < 12 by omega)).1; omega) (tr_w hw (show i < 12 by omega)).2.1 (by decide) (tr_s (tr_w hw (show i < 12 by omega)) (by decide)) rfl ((up2_ne (by omega)).trans ((Fr_v hF (by simp only [List.mem_cons, List.not_mem_nil, or_false]; omega)).trans (hR.2.2.1 i (by omega)).2.2.1)) ?_
      refine b_iastore (a := 66) i dX5_readTrains_56 (by decide) rfl rfl (by omega) (sp_nil rfl _) ?_
      refine a_aload_n (j := 4) dX5_readTrains_57 rfl rfl (Nat.le_of_ble_eq_true rfl) ?_
      refine b_getp (a := 63) (p := 67) dX5_readTrains_58 fwX5_25 (by decide) rfl (by decide) rfl rfl ?_
      refine a_iload (j := 1) dX5_readTrains_61 rfl ?_
      refine a_aload (j := 0) dX5_readTrains_63 rfl (Nat.le_of_ble_eq_true rfl) ?_
      refine b_get (a := (w + 7 + 2 * i)) (z := N (19 + 11 * i)) (t := 0) dX5_readTrains_65 fwX5_115 (by have := (tr_w hw (show i < 12 by omega)).1; omega) (tr_w hw (show i < 12 by omega)).2.1 (by decide) (tr_s (tr_w hw (show i < 12 by omega)) (by decide)) rfl ((up2_ne (by omega)).trans ((up2_ne (by omega)).trans ((Fr_v hF (by simp only [List.mem_cons, List.not_mem_nil, or_false]; omega)).trans (hR.2.2.1 i (by omega)).2.2.2.2.1))) ?_
      refine b_iastore (a := 67) i dX5_readTrains_68 (by decide) rfl rfl (by omega) (sp_nil rfl _) ?_
      refine a_aload_n (j := 4) dX5_readTrains_69 rfl rfl (Nat.le_of_ble_eq_true rfl) ?_
      refine b_getp (a := 63) (p := 68) dX5_readTrains_70 fwX5_28 (by decide) rfl (by decide) rfl rfl ?_
      refine a_iload (j := 1) dX5_readTrains_73 rfl ?_
      refine a_aload (j := 0) dX5_readTrains_75 rfl (Nat.le_of_ble_eq_true rfl) ?_
      refine b_callV (d' := d - 1) (mc' := 0) (ms' := 0) (mc1 := 0) (ms1 := 0) (st := [vI ((i : Nat) : Int), vA 68]) (b := (w + 7 + 2 * i)) [] dX5_readTrains_77 mwX6_fare lkX5_117 (by have := (tr_w hw (show i < 12 by omega)).1; omega) (tr_w hw (show i < 12 by omega)).2.1 rc_X6 rfl (Nat.le_of_ble_eq_true rfl) (by omega) rfl rfl (c_X6_fare (v1 := (N (20 + 11 * i))) (v2 := (N (15 + 11 * i))) (by omega) (tr_w hw (show i < 12 by omega)) ((up2_ne (by omega)).trans ((up2_ne (by omega)).trans ((up2_ne (by omega)).trans ((Fr_v hF (by simp only [List.mem_cons, List.not_mem_nil, or_false]; omega)).trans (hR.2.2.1 i (by omega)).2.2.2.2.2.1)))) ((up2_ne (by omega)).trans ((up2_ne (by omega)).trans ((up2_ne (by omega)).trans ((Fr_v hF (by simp only [List.mem_cons, List.not_mem_nil, or_false]; omega)).trans (hR.2.2.1 i (by omega)).1)))) (show 0 ≤ (N (20 + 11 * i)) ∧ (N (20 + 11 * i)) ≤ 999 by omega) ?_)
      show Aj γ mX5_readTrains d 0 0 Post 80 [(5, vA (w + 7 + 2 * i)), (4, vI ((i : Nat) : Int)), (3, vN), (2, vA (154 + q)), (0, vA 63), (1, vA w)] [vI (farF (N (15 + 11 * i)) (N (20 + 11 * i))), vI ((i : Nat) : Int), vA 68] (mk (up2 (up2 (up2 h1 65 i (N (16 + 11 * i))) 66 i (N (17 + 11 * i))) 67 i (N (19 + 11 * i))) τ)
      refine b_iastore (a := 68) i dX5_readTrains_80 (by decide) rfl rfl (by omega) (sp_nil rfl _) ?_
      refine a_aload_n (j := 3) dX5_readTrains_81 rfl rfl (Nat.le_of_ble_eq_true rfl) ?_
      refine a_ifnonnull (tgt := 93) dX5_readTrains_82 (by decide) (fun _ => ?_) (fun c => absurd c (by omega))
      refine a_aload_n (j := 3) dX5_readTrains_93 rfl rfl (Nat.le_of_ble_eq_true rfl) ?_
      refine a_aload_n (j := 4) dX5_readTrains_94 rfl rfl (Nat.le_of_ble_eq_true rfl) ?_
      refine b_getp (a := 63) (p := 75) dX5_readTrains_95 fwX5_49 (by decide) rfl (by decide) rfl rfl ?_
      refine a_aload (j := 0) dX5_readTrains_98 rfl (Nat.le_of_ble_eq_true rfl) ?_
      refine b_get (a := (w + 7 + 2 * i)) (z := N (15 + 11 * i)) (t := 0) dX5_readTrains_100 fwX5_124 (by have := (tr_w hw (show i < 12 by omega)).1; omega) (tr_w hw (show i < 12 by omega)).2.1 (by decide) (tr_s (tr_w hw (show i < 12 by omega)) (by decide)) rfl ((up2_ne (by omega)).trans ((up2_ne (by omega)).trans ((up2_ne (by omega)).trans ((up2_ne (by omega)).trans ((Fr_v hF (by simp only [List.mem_cons, List.not_mem_nil, or_false]; omega)).trans (hR.2.2.1 i (by omega)).1))))) ?_
      refine a_iload (j := 1) dX5_readTrains_103 rfl ?_
      refine a_aload_n (j := 5) dX5_readTrains_105 rfl rfl (Nat.le_of_ble_eq_true rfl) ?_
      refine b_get (a := w) (z := N 1) (t := 0) dX5_readTrains_106 fwX5_92 (by rcases hw with rfl | rfl <;> decide) (by rcases hw with rfl | rfl <;> rfl) (by decide) (by rcases hw with rfl | rfl <;> rfl) rfl ((up2_ne (by omega)).trans ((up2_ne (by omega)).trans ((up2_ne (by omega)).trans ((up2_ne (by omega)).trans ((Fr_v hF (by simp only [List.mem_cons, List.not_mem_nil, or_false]; omega)).trans hR.1.2.2.2.2.2.2.1))))) ?_
      obtain ⟨ftq, hqq, hqq_⟩ := id hxq
      refine a_callV (d' := d - 1) (mc' := 0) (ms' := 0) (mc1 := 0) (ms1 := 0) (st := []) (b := (154 + q)) (κ := 4) (n := 3) (f := ftq) [vA 75, vI (N (15 + 11 * i)), vI ((i : Nat) : Int), vI (N 1)] dX5_readTrains_109 mwX4_worth lkX5_95 ((mk_dyn q).trans hqq) rc_X4 rfl (Nat.le_of_ble_eq_true rfl) (by omega) rfl rfl (c_X4_worthN (N := N) (t := ctq) (by omega) hv.2.2.2 (by omega) hxq (fun g2 => ?_))
      show Aj γ mX5_readTrains d 0 0 Post 112 [(5, vA (w + 7 + 2 * i)), (4, vI ((i : Nat) : Int)), (3, vN), (2, vA (154 + q)), (0, vA 63), (1, vA w)] [vI (woN N ctq (fc3 (N (15 + 11 * i)) ((i : Nat) : Int) (N 1)))] (mk (upR (up2 (up2 (up2 (up2 h1 65 i (N (16 + 11 * i))) 66 i (N (17 + 11 * i))) 67 i (N (19 + 11 * i))) 68 i (farF (N (15 + 11 * i)) (N (20 + 11 * i)))) 75 g2) τ)
      refine a_istore (lv' := [(6, vI (woN N ctq (fc3 (N (15 + 11 * i)) ((i : Nat) : Int) (N 1)))), (5, vA (w + 7 + 2 * i)), (4, vI ((i : Nat) : Int)), (3, vN), (2, vA (154 + q)), (0, vA 63), (1, vA w)]) dX5_readTrains_112 (by decide) rfl ?_
      refine a_aload_n (j := 5) dX5_readTrains_114 rfl rfl (Nat.le_of_ble_eq_true rfl) ?_
      refine b_getp (a := 63) (p := 70) dX5_readTrains_115 fwX5_34 (by decide) rfl (by decide) rfl rfl ?_
      refine a_iload (j := 2) dX5_readTrains_118 rfl ?_
      refine a_iload (j := 0) dX5_readTrains_120 rfl ?_
      refine a_iconst dX5_readTrains_122 ⟨by decide, by decide⟩ ?_
      refine a_bipush dX5_readTrains_123 ⟨by decide, by decide, by decide⟩ ?_
      refine a_callS (d' := d - 1) (mc' := 0) (ms' := 0) (mc1 := 0) (ms1 := 0) (st := [vI ((i : Nat) : Int), vA 70]) [vI (woN N ctq (fc3 (N (15 + 11 * i)) ((i : Nat) : Int) (N 1))), vI 0, vI 30] dX5_readTrains_125 mwX8_heldWithin lkX5_101 rfl (Nat.le_of_ble_eq_true rfl) (by omega) rfl rfl (c_X8_heldWithin  (by omega)   (show 0 ≤ 30 by omega) ?_)
      show Aj γ mX5_readTrains d 0 0 Post 128 [(6, vI (woN N ctq (fc3 (N (15 + 11 * i)) ((i : Nat) : Int) (N 1)))), (5, vA (w + 7 + 2 * i)), (4, vI ((i : Nat) : Int)), (3, vN), (2, vA (154 + q)), (0, vA 63), (1, vA w)] [vI (hwF (woN N ctq (fc3 (N (15 + 11 * i)) ((i : Nat) : Int) (N 1))) 0 30), vI ((i : Nat) : Int), vA 70] (mk (upR (up2 (up2 (up2 (up2 h1 65 i (N (16 + 11 * i))) 66 i (N (17 + 11 * i))) 67 i (N (19 + 11 * i))) 68 i (farF (N (15 + 11 * i)) (N (20 + 11 * i)))) 75 g2) τ)
      refine b_iastore (a := 70) i dX5_readTrains_128 (by decide) rfl rfl (by omega) (sp_nil rfl _) ?_
      refine a_aload_n (j := 3) dX5_readTrains_129 rfl rfl (Nat.le_of_ble_eq_true rfl) ?_
      refine a_ifnull (tgt := 142) dX5_readTrains_130 (by decide) (fun _ => ?_) (fun c => absurd c (by decide))
      refine a_iconst dX5_readTrains_142 ⟨by decide, by decide⟩ ?_
      refine a_goto (tgt := 161) dX5_readTrains_143 (by decide) ?_
      refine a_istore (lv' := [(7, vI 0), (6, vI (woN N ctq (fc3 (N (15 + 11 * i)) ((i : Nat) : Int) (N 1)))), (5, vA (w + 7 + 2 * i)), (4, vI ((i : Nat) : Int)), (3, vN), (2, vA (154 + q)), (0, vA 63), (1, vA w)]) dX5_readTrains_161 (by decide) rfl ?_
      refine a_aload_n (j := 6) dX5_readTrains_163 rfl rfl (Nat.le_of_ble_eq_true rfl) ?_
      refine b_getp (a := 63) (p := 69) dX5_readTrains_164 fwX5_31 (by decide) rfl (by decide) rfl rfl ?_
      refine a_iload (j := 3) dX5_readTrains_167 rfl ?_
      refine a_aload (j := 2) dX5_readTrains_169 rfl (Nat.le_of_ble_eq_true rfl) ?_
      refine b_get (a := (w + 7 + 2 * i)) (z := N (18 + 11 * i)) (t := 0) dX5_readTrains_171 fwX5_127 (by have := (tr_w hw (show i < 12 by omega)).1; omega) (tr_w hw (show i < 12 by omega)).2.1 (by decide) (tr_s (tr_w hw (show i < 12 by omega)) (by decide)) rfl ((up2_ne (by omega)).trans ((upR_ne (by omega)).trans ((up2_ne (by omega)).trans ((up2_ne (by omega)).trans ((up2_ne (by omega)).trans ((up2_ne (by omega)).trans ((Fr_v hF (by simp only [List.mem_cons, List.not_mem_nil, or_false]; omega)).trans (hR.2.2.1 i (by omega)).2.2.2.1))))))) ?_
      refine a_iload (j := 0) dX5_readTrains_174 rfl ?_
      refine a_iconst dX5_readTrains_176 ⟨by decide, by decide⟩ ?_
      refine a_bipush dX5_readTrains_177 ⟨by decide, by decide, by decide⟩ ?_
      refine a_callS (d' := d - 1) (mc' := 0) (ms' := 0) (mc1 := 0) (ms1 := 0) (st := [vI (N (18 + 11 * i)), vI ((i : Nat) : Int), vA 69]) [vI 0, vI 0, vI 120] dX5_readTrains_179 mwX8_heldWithin lkX5_101 rfl (Nat.le_of_ble_eq_true rfl) (by omega) rfl rfl (c_X8_heldWithin  (by omega)   (show 0 ≤ 120 by omega) ?_)
      show Aj γ mX5_readTrains d 0 0 Post 182 [(7, vI 0), (6, vI (woN N ctq (fc3 (N (15 + 11 * i)) ((i : Nat) : Int) (N 1)))), (5, vA (w + 7 + 2 * i)), (4, vI ((i : Nat) : Int)), (3, vN), (2, vA (154 + q)), (0, vA 63), (1, vA w)] [vI (hwF 0 0 120), vI (N (18 + 11 * i)), vI ((i : Nat) : Int), vA 69] (mk (up2 (upR (up2 (up2 (up2 (up2 h1 65 i (N (16 + 11 * i))) 66 i (N (17 + 11 * i))) 67 i (N (19 + 11 * i))) 68 i (farF (N (15 + 11 * i)) (N (20 + 11 * i)))) 75 g2) 70 i (hwF (woN N ctq (fc3 (N (15 + 11 * i)) ((i : Nat) : Int) (N 1))) 0 30)) τ)
      have hwr := hwF_rng (v := 0) (a := 0) (b := 120) (by omega)
      refine a_iadd (z := ((N (18 + 11 * i)) + (hwF 0 0 120))) dX5_readTrains_182 (w_ok (by omega) (by omega)) ?_
      refine b_iastore (a := 69) i dX5_readTrains_183 (by decide) rfl rfl (by omega) (sp_nil rfl _) ?_
      refine a_aload_n (j := 6) dX5_readTrains_184 rfl rfl (Nat.le_of_ble_eq_true rfl) ?_
      refine a_iload (j := 3) dX5_readTrains_185 rfl ?_
      refine a_aload (j := 2) dX5_readTrains_187 rfl (Nat.le_of_ble_eq_true rfl) ?_
      have ra : (up2 (up2 (upR (up2 (up2 (up2 (up2 h1 65 i (N (16 + 11 * i))) 66 i (N (17 + 11 * i))) 67 i (N (19 + 11 * i))) 68 i (farF (N (15 + 11 * i)) (N (20 + 11 * i)))) 75 g2) 70 i (hwF (woN N ctq (fc3 (N (15 + 11 * i)) ((i : Nat) : Int) (N 1))) 0 30)) 69 i ((N (18 + 11 * i)) + (hwF 0 0 120))) (w + 7 + 2 * i) = h (w + 7 + 2 * i) := ((up2_row (by omega)).trans ((up2_row (by omega)).trans ((upR_rn (by omega)).trans ((up2_row (by omega)).trans ((up2_row (by omega)).trans ((up2_row (by omega)).trans ((up2_row (by omega)).trans ((hF (w + 7 + 2 * i) (by simp only [List.mem_cons, List.not_mem_nil, or_false]; omega)).trans rfl))))))))
      have rb : (up2 (up2 (upR (up2 (up2 (up2 (up2 h1 65 i (N (16 + 11 * i))) 66 i (N (17 + 11 * i))) 67 i (N (19 + 11 * i))) 68 i (farF (N (15 + 11 * i)) (N (20 + 11 * i)))) 75 g2) 70 i (hwF (woN N ctq (fc3 (N (15 + 11 * i)) ((i : Nat) : Int) (N 1))) 0 30)) 69 i ((N (18 + 11 * i)) + (hwF 0 0 120))) ((w + 7 + 2 * i) + 1) = h ((w + 7 + 2 * i) + 1) := ((up2_row (by omega)).trans ((up2_row (by omega)).trans ((upR_rn (by omega)).trans ((up2_row (by omega)).trans ((up2_row (by omega)).trans ((up2_row (by omega)).trans ((up2_row (by omega)).trans ((hF ((w + 7 + 2 * i) + 1) (by simp only [List.mem_cons, List.not_mem_nil, or_false]; omega)).trans rfl))))))))
      have o65 : ∀ u : Nat, u < i → (up2 (up2 (upR (up2 (up2 (up2 (up2 h1 65 i (N (16 + 11 * i))) 66 i (N (17 + 11 * i))) 67 i (N (19 + 11 * i))) 68 i (farF (N (15 + 11 * i)) (N (20 + 11 * i)))) 75 g2) 70 i (hwF (woN N ctq (fc3 (N (15 + 11 * i)) ((i : Nat) : Int) (N 1))) 0 30)) 69 i ((N (18 + 11 * i)) + (hwF 0 0 120))) 65 u = h1 65 u := fun u hu => ((up2_ne (by omega)).trans ((up2_ne (by omega)).trans ((upR_ne (by omega)).trans ((up2_ne (by omega)).trans ((up2_ne (by omega)).trans ((up2_ne (by omega)).trans ((up2_ne (by omega)).trans rfl)))))))
      have o66 : ∀ u : Nat, u < i → (up2 (up2 (upR (up2 (up2 (up2 (up2 h1 65 i (N (16 + 11 * i))) 66 i (N (17 + 11 * i))) 67 i (N (19 + 11 * i))) 68 i (farF (N (15 + 11 * i)) (N (20 + 11 * i)))) 75 g2) 70 i (hwF (woN N ctq (fc3 (N (15 + 11 * i)) ((i : Nat) : Int) (N 1))) 0 30)) 69 i ((N (18 + 11 * i)) + (hwF 0 0 120))) 66 u = h1 66 u := fun u hu => ((up2_ne (by omega)).trans ((up2_ne (by omega)).trans ((upR_ne (by omega)).trans ((up2_ne (by omega)).trans ((up2_ne (by omega)).trans ((up2_ne (by omega)).trans ((up2_ne (by omega)).trans rfl)))))))
      have o67 : ∀ u : Nat, u < i → (up2 (up2 (upR (up2 (up2 (up2 (up2 h1 65 i (N (16 + 11 * i))) 66 i (N (17 + 11 * i))) 67 i (N (19 + 11 * i))) 68 i (farF (N (15 + 11 * i)) (N (20 + 11 * i)))) 75 g2) 70 i (hwF (woN N ctq (fc3 (N (15 + 11 * i)) ((i : Nat) : Int) (N 1))) 0 30)) 69 i ((N (18 + 11 * i)) + (hwF 0 0 120))) 67 u = h1 67 u := fun u hu => ((up2_ne (by omega)).trans ((up2_ne (by omega)).trans ((upR_ne (by omega)).trans ((up2_ne (by omega)).trans ((up2_ne (by omega)).trans ((up2_ne (by omega)).trans ((up2_ne (by omega)).trans rfl)))))))
      have o68 : ∀ u : Nat, u < i → (up2 (up2 (upR (up2 (up2 (up2 (up2 h1 65 i (N (16 + 11 * i))) 66 i (N (17 + 11 * i))) 67 i (N (19 + 11 * i))) 68 i (farF (N (15 + 11 * i)) (N (20 + 11 * i)))) 75 g2) 70 i (hwF (woN N ctq (fc3 (N (15 + 11 * i)) ((i : Nat) : Int) (N 1))) 0 30)) 69 i ((N (18 + 11 * i)) + (hwF 0 0 120))) 68 u = h1 68 u := fun u hu => ((up2_ne (by omega)).trans ((up2_ne (by omega)).trans ((upR_ne (by omega)).trans ((up2_ne (by omega)).trans ((up2_ne (by omega)).trans ((up2_ne (by omega)).trans ((up2_ne (by omega)).trans rfl)))))))
      have o69 : ∀ u : Nat, u < i → (up2 (up2 (upR (up2 (up2 (up2 (up2 h1 65 i (N (16 + 11 * i))) 66 i (N (17 + 11 * i))) 67 i (N (19 + 11 * i))) 68 i (farF (N (15 + 11 * i)) (N (20 + 11 * i)))) 75 g2) 70 i (hwF (woN N ctq (fc3 (N (15 + 11 * i)) ((i : Nat) : Int) (N 1))) 0 30)) 69 i ((N (18 + 11 * i)) + (hwF 0 0 120))) 69 u = h1 69 u := fun u hu => ((up2_ne (by omega)).trans ((up2_ne (by omega)).trans ((upR_ne (by omega)).trans ((up2_ne (by omega)).trans ((up2_ne (by omega)).trans ((up2_ne (by omega)).trans ((up2_ne (by omega)).trans rfl)))))))
      have o70 : ∀ u : Nat, u < i → (up2 (up2 (upR (up2 (up2 (up2 (up2 h1 65 i (N (16 + 11 * i))) 66 i (N (17 + 11 * i))) 67 i (N (19 + 11 * i))) 68 i (farF (N (15 + 11 * i)) (N (20 + 11 * i)))) 75 g2) 70 i (hwF (woN N ctq (fc3 (N (15 + 11 * i)) ((i : Nat) : Int) (N 1))) 0 30)) 69 i ((N (18 + 11 * i)) + (hwF 0 0 120))) 70 u = h1 70 u := fun u hu => ((up2_ne (by omega)).trans ((up2_ne (by omega)).trans ((upR_ne (by omega)).trans ((up2_ne (by omega)).trans ((up2_ne (by omega)).trans ((up2_ne (by omega)).trans ((up2_ne (by omega)).trans rfl)))))))
      have o71 : ∀ u : Nat, (up2 (up2 (upR (up2 (up2 (up2 (up2 h1 65 i (N (16 + 11 * i))) 66 i (N (17 + 11 * i))) 67 i (N (19 + 11 * i))) 68 i (farF (N (15 + 11 * i)) (N (20 + 11 * i)))) 75 g2) 70 i (hwF (woN N ctq (fc3 (N (15 + 11 * i)) ((i : Nat) : Int) (N 1))) 0 30)) 69 i ((N (18 + 11 * i)) + (hwF 0 0 120))) 71 u = h1 71 u := fun u => ((up2_ne (by omega)).trans ((up2_ne (by omega)).trans ((upR_ne (by omega)).trans ((up2_ne (by omega)).trans ((up2_ne (by omega)).trans ((up2_ne (by omega)).trans ((up2_ne (by omega)).trans rfl)))))))
      have o72 : ∀ u : Nat, (up2 (up2 (upR (up2 (up2 (up2 (up2 h1 65 i (N (16 + 11 * i))) 66 i (N (17 + 11 * i))) 67 i (N (19 + 11 * i))) 68 i (farF (N (15 + 11 * i)) (N (20 + 11 * i)))) 75 g2) 70 i (hwF (woN N ctq (fc3 (N (15 + 11 * i)) ((i : Nat) : Int) (N 1))) 0 30)) 69 i ((N (18 + 11 * i)) + (hwF 0 0 120))) 72 u = h1 72 u := fun u => ((up2_ne (by omega)).trans ((up2_ne (by omega)).trans ((upR_ne (by omega)).trans ((up2_ne (by omega)).trans ((up2_ne (by omega)).trans ((up2_ne (by omega)).trans ((up2_ne (by omega)).trans rfl)))))))
      have n65 : (up2 (up2 (upR (up2 (up2 (up2 (up2 h1 65 i (N (16 + 11 * i))) 66 i (N (17 + 11 * i))) 67 i (N (19 + 11 * i))) 68 i (farF (N (15 + 11 * i)) (N (20 + 11 * i)))) 75 g2) 70 i (hwF (woN N ctq (fc3 (N (15 + 11 * i)) ((i : Nat) : Int) (N 1))) 0 30)) 69 i ((N (18 + 11 * i)) + (hwF 0 0 120))) 65 i = N (16 + 11 * i) := ((up2_ne (by omega)).trans ((up2_ne (by omega)).trans ((upR_ne (by omega)).trans ((up2_ne (by omega)).trans ((up2_ne (by omega)).trans ((up2_ne (by omega)).trans up2_at))))))
      have n66 : (up2 (up2 (upR (up2 (up2 (up2 (up2 h1 65 i (N (16 + 11 * i))) 66 i (N (17 + 11 * i))) 67 i (N (19 + 11 * i))) 68 i (farF (N (15 + 11 * i)) (N (20 + 11 * i)))) 75 g2) 70 i (hwF (woN N ctq (fc3 (N (15 + 11 * i)) ((i : Nat) : Int) (N 1))) 0 30)) 69 i ((N (18 + 11 * i)) + (hwF 0 0 120))) 66 i = N (17 + 11 * i) := ((up2_ne (by omega)).trans ((up2_ne (by omega)).trans ((upR_ne (by omega)).trans ((up2_ne (by omega)).trans ((up2_ne (by omega)).trans up2_at)))))
      have n67 : (up2 (up2 (upR (up2 (up2 (up2 (up2 h1 65 i (N (16 + 11 * i))) 66 i (N (17 + 11 * i))) 67 i (N (19 + 11 * i))) 68 i (farF (N (15 + 11 * i)) (N (20 + 11 * i)))) 75 g2) 70 i (hwF (woN N ctq (fc3 (N (15 + 11 * i)) ((i : Nat) : Int) (N 1))) 0 30)) 69 i ((N (18 + 11 * i)) + (hwF 0 0 120))) 67 i = N (19 + 11 * i) := ((up2_ne (by omega)).trans ((up2_ne (by omega)).trans ((upR_ne (by omega)).trans ((up2_ne (by omega)).trans up2_at))))
      have n68 : (up2 (up2 (upR (up2 (up2 (up2 (up2 h1 65 i (N (16 + 11 * i))) 66 i (N (17 + 11 * i))) 67 i (N (19 + 11 * i))) 68 i (farF (N (15 + 11 * i)) (N (20 + 11 * i)))) 75 g2) 70 i (hwF (woN N ctq (fc3 (N (15 + 11 * i)) ((i : Nat) : Int) (N 1))) 0 30)) 69 i ((N (18 + 11 * i)) + (hwF 0 0 120))) 68 i = (farF (N (15 + 11 * i)) (N (20 + 11 * i))) := ((up2_ne (by omega)).trans ((up2_ne (by omega)).trans ((upR_ne (by omega)).trans up2_at)))
      have n69 : (up2 (up2 (upR (up2 (up2 (up2 (up2 h1 65 i (N (16 + 11 * i))) 66 i (N (17 + 11 * i))) 67 i (N (19 + 11 * i))) 68 i (farF (N (15 + 11 * i)) (N (20 + 11 * i)))) 75 g2) 70 i (hwF (woN N ctq (fc3 (N (15 + 11 * i)) ((i : Nat) : Int) (N 1))) 0 30)) 69 i ((N (18 + 11 * i)) + (hwF 0 0 120))) 69 i = ((N (18 + 11 * i)) + (hwF 0 0 120)) := up2_at
      have n70 : (up2 (up2 (upR (up2 (up2 (up2 (up2 h1 65 i (N (16 + 11 * i))) 66 i (N (17 + 11 * i))) 67 i (N (19 + 11 * i))) 68 i (farF (N (15 + 11 * i)) (N (20 + 11 * i)))) 75 g2) 70 i (hwF (woN N ctq (fc3 (N (15 + 11 * i)) ((i : Nat) : Int) (N 1))) 0 30)) 69 i ((N (18 + 11 * i)) + (hwF 0 0 120))) 70 i = (hwF (woN N ctq (fc3 (N (15 + 11 * i)) ((i : Nat) : Int) (N 1))) 0 30) := ((up2_ne (by omega)).trans up2_at)
      have hwt : (hwF (woN N ctq (fc3 (N (15 + 11 * i)) ((i : Nat) : Int) (N 1))) 0 30) = wtN N i := by
        unfold wtN; rw [if_neg (by omega), hctq]; rfl
      have hgo : ((N (18 + 11 * i)) + (hwF 0 0 120)) = goN N i := by
        unfold goN
        have e : tdN N i = 0 := by unfold tdN; rw [if_pos cu]
        rw [e]; split <;> rfl
      refine b_callV (d' := d - 1) (mc' := 0) (ms' := 0) (mc1 := 0) (ms1 := 0) (st := []) (b := 63) [vI ((i : Nat) : Int), vA (w + 7 + 2 * i)] dX5_readTrains_189 mwX5_readSteps lkX5_130 (by decide) rfl rc_X5 rfl (Nat.le_of_ble_eq_true rfl) (by omega) rfl rfl (c_X5_readSteps (N := N) (by omega) (tr_w hw (show i < 12 by omega)) (by omega) (by omega) (trW_fr ra rb (hR.2.2.1 i (by omega))) hr (n69.trans hgo) (fun u hu => ⟨(o69 u hu).trans (iv u hu).2.2.2.2.1, goN_rng (hv.2.2.1 u (by omega))⟩) (fun u hu s hs => (o72 _).trans (iw u hu s hs).2) (fun h9 hG9 j1 j2 => ?_))
      show Aj γ mX5_readTrains d 0 0 Post 192 [(7, vI 0), (6, vI (woN N ctq (fc3 (N (15 + 11 * i)) ((i : Nat) : Int) (N 1)))), (5, vA (w + 7 + 2 * i)), (4, vI ((i : Nat) : Int)), (3, vN), (2, vA (154 + q)), (0, vA 63), (1, vA w)] [] (mk h9 τ)
      refine a_iinc (j := 3) (z' := ((i + 1 : Nat) : Int)) (lv' := [(4, vI ((i + 1 : Nat) : Int)), (7, vI 0), (6, vI (woN N ctq (fc3 (N (15 + 11 * i)) ((i : Nat) : Int) (N 1)))), (5, vA (w + 7 + 2 * i)), (3, vN), (2, vA (154 + q)), (0, vA 63), (1, vA w)]) dX5_readTrains_192 rfl (w_okN (by omega) (by omega) (by omega)) (by decide) rfl ?_
      refine a_goto (tgt := 15) dX5_readTrains_195 (by decide) ?_
      refine a_lv (lv' := [(4, vI (((i + 1) : Nat) : Int)), (3, vN), (2, vA (154 + q)), (0, vA 63), (1, vA w)]) (by intro q hq; simp only [List.mem_cons, List.not_mem_nil, or_false] at hq ⊢; rcases hq with rfl | rfl | rfl | rfl | rfl <;> simp) (ih (i + 1) h9  (by omega) (by omega) (Fr_t (Fr_u (by decide) (Fr_u (by decide) (Fr_R (by decide) (Fr_u (by decide) (Fr_u (by decide) (Fr_u (by decide) (Fr_u (by decide) (Fr_m (by decide) hF)))))))) (Fr_m (by decide) hG9)) (fun u hu => by
          rw [Fr_v hG9 (by decide), Fr_v hG9 (by decide), Fr_v hG9 (by decide), Fr_v hG9 (by decide), Fr_v hG9 (by decide), Fr_v hG9 (by decide)]
          by_cases c : u = i
          · subst c; exact ⟨n65, n66, n67, n68, n69.trans hgo, n70.trans hwt⟩
          · rw [o65 u (by omega), o66 u (by omega), o67 u (by omega), o68 u (by omega), o69 u (by omega), o70 u (by omega)]; exact iv u (by omega)) (fun u hu s hs => by
          by_cases c : u = i
          · subst c; exact j1 s hs
          · rw [(j2 _ (by omega)).1, (j2 _ (by omega)).2, o71, o72]; exact iw u (by omega) s hs))
set_option maxHeartbeats 8000000 in
theorem l_rtSS {γ : GT} {d : Nat} {w n q u ctq ctu : Nat} {N : Nat → Int} {h : Nat → Nat → Int} {τ : List AC} {Post : Option AV → List AC → Prop} (hd : 3 ≤ d) (hw : isWd w) (hR : WR h τ w N) (hv : NV N) (hn3 : h 63 3 = ((n : Nat) : Int)) (hn : N 5 = ((n : Nat) : Int)) (hn12 : n ≤ 12) (hctq : cnN N 0 = (ctq : Int)) (hxq : TX τ N ctq q) (hctu : cnN N 1 = (ctu : Int)) (hxu : TX τ N ctu u) (kE : ∀ h', Fr [65, 66, 67, 68, 69, 70, 71, 72, 75] h h' → (∀ u : Nat, u < n → h' 65 u = N (16 + 11 * u) ∧ h' 66 u = N (17 + 11 * u) ∧ h' 67 u = N (19 + 11 * u) ∧ h' 68 u = farF (N (15 + 11 * u)) (N (20 + 11 * u)) ∧ h' 69 u = goN N u ∧ h' 70 u = wtN N u) → (∀ u : Nat, u < n → ∀ s : Nat, s < 4 → h' 71 (4 * u + s) = N (22 + 11 * u + s) ∧ h' 72 (4 * u + s) = goN N u + dlN N u s) → Post none (mk h' τ)) :
    ∀ (f i : Nat) (h1 : Nat → Nat → Int), i ≤ n → n < i + f → Fr [65, 66, 67, 68, 69, 70, 71, 72, 75] h h1 → (∀ u : Nat, u < i → h1 65 u = N (16 + 11 * u) ∧ h1 66 u = N (17 + 11 * u) ∧ h1 67 u = N (19 + 11 * u) ∧ h1 68 u = farF (N (15 + 11 * u)) (N (20 + 11 * u)) ∧ h1 69 u = goN N u ∧ h1 70 u = wtN N u) → (∀ u : Nat, u < i → ∀ s : Nat, s < 4 → h1 71 (4 * u + s) = N (22 + 11 * u + s) ∧ h1 72 (4 * u + s) = goN N u + dlN N u s) → Aj γ mX5_readTrains d 0 0 Post 15 [(4, vI ((i : Nat) : Int)), (3, vA (154 + u)), (2, vA (154 + q)), (0, vA 63), (1, vA w)] [] (mk h1 τ) := by
  intro f
  induction f with
  | zero => intro i h1  h1_ h2_; omega
  | succ f ih =>
    intro i h1  h1_ h2_ hF iv iw
    have hw_ : w = 1 ∨ w = 32 := hw
    have hx1 := hv.2.2.2.1
    have hcn := cnN_rng hv.2.2.2 0
    have hcn1 := cnN_rng hv.2.2.2 1
    refine a_iload (j := 0) dX5_readTrains_15 rfl ?_
    refine a_aload_n (j := 3) dX5_readTrains_17 rfl rfl (Nat.le_of_ble_eq_true rfl) ?_
    refine b_get (a := 63) (z := ((n : Nat) : Int)) (t := 0) dX5_readTrains_18 fwX5_73 (by decide) rfl (by decide) rfl rfl ((Fr_v hF (by decide)).trans hn3) ?_
    refine a_icmp_ge (tgt := 198) dX5_readTrains_21 (by decide) (fun c21_1 => ?_) (fun c21_1 => ?_)
    · exact a_vret dX5_readTrains_198 rfl (kE _ hF (fun u hu => iv u (by omega)) (fun u hu => iw u (by omega)))
    · have hr : trR N i := hv.2.2.1 i (by omega)
      have hr1 := hr.1
      have hr4 := hr.2.2.2.1
      have hr6 := hr.2.2.2.2.2.1
      refine a_aload_n (j := 4) dX5_readTrains_24 rfl rfl (Nat.le_of_ble_eq_true rfl) ?_
      refine b_getp (a := w) (p := (w + 2)) dX5_readTrains_25 fwX5_105 (by rcases hw with rfl | rfl <;> decide) (by rcases hw with rfl | rfl <;> rfl) (by decide) (by rcases hw with rfl | rfl <;> rfl) rfl ?_
      refine a_iload (j := 0) dX5_readTrains_28 rfl ?_
      refine b_aaloadp (a := (w + 2)) (p := (w + 7 + 2 * i)) i dX5_readTrains_30 (by rcases hw with rfl | rfl <;> decide) (by rcases hw with rfl | rfl <;> rfl) qa_18 rfl (by omega) (tr_a hw (show i < 12 by omega)) ?_
      refine a_astore (lv' := [(5, vA (w + 7 + 2 * i)), (4, vI ((i : Nat) : Int)), (3, vA (154 + u)), (2, vA (154 + q)), (0, vA 63), (1, vA w)]) dX5_readTrains_31 (by decide) (Nat.le_of_ble_eq_true rfl) rfl ?_
      refine a_aload_n (j := 4) dX5_readTrains_33 rfl rfl (Nat.le_of_ble_eq_true rfl) ?_
      refine b_getp (a := 63) (p := 65) dX5_readTrains_34 fwX5_19 (by decide) rfl (by decide) rfl rfl ?_
      refine a_iload (j := 1) dX5_readTrains_37 rfl ?_
      refine a_aload (j := 0) dX5_readTrains_39 rfl (Nat.le_of_ble_eq_true rfl) ?_
      refine b_get (a := (w + 7 + 2 * i)) (z := N (16 + 11 * i)) (t := 0) dX5_readTrains_41 fwX5_109 (by have := (tr_w hw (show i < 12 by omega)).1; omega) (tr_w hw (show i < 12 by omega)).2.1 (by decide) (tr_s (tr_w hw (show i < 12 by omega)) (by decide)) rfl ((Fr_v hF (by simp only [List.mem_cons, List.not_mem_nil, or_false]; omega)).trans (hR.2.2.1 i (by omega)).2.1) ?_
      refine b_iastore (a := 65) i dX5_readTrains_44 (by decide) rfl rfl (by omega) (sp_nil rfl _) ?_
      refine a_aload_n (j := 4) dX5_readTrains_45 rfl rfl (Nat.le_of_ble_eq_true rfl) ?_
      refine b_getp (a := 63) (p := 66) dX5_readTrains_46 fwX5_22 (by decide) rfl (by decide) rfl rfl ?_
      refine a_iload (j := 1) dX5_readTrains_49 rfl ?_
      refine a_aload (j := 0) dX5_readTrains_51 rfl (Nat.le_of_ble_eq_true rfl) ?_
      refine b_get (a := (w + 7 + 2 * i)) (z := N (17 + 11 * i)) (t := 0) dX5_readTrains_53 fwX5_113 (by have := (tr_w hw (show i < 12 by omega)).1; omega) (tr_w hw (show i < 12 by omega)).2.1 (by decide) (tr_s (tr_w hw (show i < 12 by omega)) (by decide)) rfl ((up2_ne (by omega)).trans ((Fr_v hF (by simp only [List.mem_cons, List.not_mem_nil, or_false]; omega)).trans (hR.2.2.1 i (by omega)).2.2.1)) ?_
      refine b_iastore (a := 66) i dX5_readTrains_56 (by decide) rfl rfl (by omega) (sp_nil rfl _) ?_
      refine a_aload_n (j := 4) dX5_readTrains_57 rfl rfl (Nat.le_of_ble_eq_true rfl) ?_
      refine b_getp (a := 63) (p := 67) dX5_readTrains_58 fwX5_25 (by decide) rfl (by decide) rfl rfl ?_
      refine a_iload (j := 1) dX5_readTrains_61 rfl ?_
      refine a_aload (j := 0) dX5_readTrains_63 rfl (Nat.le_of_ble_eq_true rfl) ?_
      refine b_get (a := (w + 7 + 2 * i)) (z := N (19 + 11 * i)) (t := 0) dX5_readTrains_65 fwX5_115 (by have := (tr_w hw (show i < 12 by omega)).1; omega) (tr_w hw (show i < 12 by omega)).2.1 (by decide) (tr_s (tr_w hw (show i < 12 by omega)) (by decide)) rfl ((up2_ne (by omega)).trans ((up2_ne (by omega)).trans ((Fr_v hF (by simp only [List.mem_cons, List.not_mem_nil, or_false]; omega)).trans (hR.2.2.1 i (by omega)).2.2.2.2.1))) ?_
      refine b_iastore (a := 67) i dX5_readTrains_68 (by decide) rfl rfl (by omega) (sp_nil rfl _) ?_
      refine a_aload_n (j := 4) dX5_readTrains_69 rfl rfl (Nat.le_of_ble_eq_true rfl) ?_
      refine b_getp (a := 63) (p := 68) dX5_readTrains_70 fwX5_28 (by decide) rfl (by decide) rfl rfl ?_
      refine a_iload (j := 1) dX5_readTrains_73 rfl ?_
      refine a_aload (j := 0) dX5_readTrains_75 rfl (Nat.le_of_ble_eq_true rfl) ?_
      refine b_callV (d' := d - 1) (mc' := 0) (ms' := 0) (mc1 := 0) (ms1 := 0) (st := [vI ((i : Nat) : Int), vA 68]) (b := (w + 7 + 2 * i)) [] dX5_readTrains_77 mwX6_fare lkX5_117 (by have := (tr_w hw (show i < 12 by omega)).1; omega) (tr_w hw (show i < 12 by omega)).2.1 rc_X6 rfl (Nat.le_of_ble_eq_true rfl) (by omega) rfl rfl (c_X6_fare (v1 := (N (20 + 11 * i))) (v2 := (N (15 + 11 * i))) (by omega) (tr_w hw (show i < 12 by omega)) ((up2_ne (by omega)).trans ((up2_ne (by omega)).trans ((up2_ne (by omega)).trans ((Fr_v hF (by simp only [List.mem_cons, List.not_mem_nil, or_false]; omega)).trans (hR.2.2.1 i (by omega)).2.2.2.2.2.1)))) ((up2_ne (by omega)).trans ((up2_ne (by omega)).trans ((up2_ne (by omega)).trans ((Fr_v hF (by simp only [List.mem_cons, List.not_mem_nil, or_false]; omega)).trans (hR.2.2.1 i (by omega)).1)))) (show 0 ≤ (N (20 + 11 * i)) ∧ (N (20 + 11 * i)) ≤ 999 by omega) ?_)
      show Aj γ mX5_readTrains d 0 0 Post 80 [(5, vA (w + 7 + 2 * i)), (4, vI ((i : Nat) : Int)), (3, vA (154 + u)), (2, vA (154 + q)), (0, vA 63), (1, vA w)] [vI (farF (N (15 + 11 * i)) (N (20 + 11 * i))), vI ((i : Nat) : Int), vA 68] (mk (up2 (up2 (up2 h1 65 i (N (16 + 11 * i))) 66 i (N (17 + 11 * i))) 67 i (N (19 + 11 * i))) τ)
      refine b_iastore (a := 68) i dX5_readTrains_80 (by decide) rfl rfl (by omega) (sp_nil rfl _) ?_
      refine a_aload_n (j := 3) dX5_readTrains_81 rfl rfl (Nat.le_of_ble_eq_true rfl) ?_
      refine a_ifnonnull (tgt := 93) dX5_readTrains_82 (by decide) (fun _ => ?_) (fun c => absurd c (by omega))
      refine a_aload_n (j := 3) dX5_readTrains_93 rfl rfl (Nat.le_of_ble_eq_true rfl) ?_
      refine a_aload_n (j := 4) dX5_readTrains_94 rfl rfl (Nat.le_of_ble_eq_true rfl) ?_
      refine b_getp (a := 63) (p := 75) dX5_readTrains_95 fwX5_49 (by decide) rfl (by decide) rfl rfl ?_
      refine a_aload (j := 0) dX5_readTrains_98 rfl (Nat.le_of_ble_eq_true rfl) ?_
      refine b_get (a := (w + 7 + 2 * i)) (z := N (15 + 11 * i)) (t := 0) dX5_readTrains_100 fwX5_124 (by have := (tr_w hw (show i < 12 by omega)).1; omega) (tr_w hw (show i < 12 by omega)).2.1 (by decide) (tr_s (tr_w hw (show i < 12 by omega)) (by decide)) rfl ((up2_ne (by omega)).trans ((up2_ne (by omega)).trans ((up2_ne (by omega)).trans ((up2_ne (by omega)).trans ((Fr_v hF (by simp only [List.mem_cons, List.not_mem_nil, or_false]; omega)).trans (hR.2.2.1 i (by omega)).1))))) ?_
      refine a_iload (j := 1) dX5_readTrains_103 rfl ?_
      refine a_aload_n (j := 5) dX5_readTrains_105 rfl rfl (Nat.le_of_ble_eq_true rfl) ?_
      refine b_get (a := w) (z := N 1) (t := 0) dX5_readTrains_106 fwX5_92 (by rcases hw with rfl | rfl <;> decide) (by rcases hw with rfl | rfl <;> rfl) (by decide) (by rcases hw with rfl | rfl <;> rfl) rfl ((up2_ne (by omega)).trans ((up2_ne (by omega)).trans ((up2_ne (by omega)).trans ((up2_ne (by omega)).trans ((Fr_v hF (by simp only [List.mem_cons, List.not_mem_nil, or_false]; omega)).trans hR.1.2.2.2.2.2.2.1))))) ?_
      obtain ⟨ftq, hqq, hqq_⟩ := id hxq
      refine a_callV (d' := d - 1) (mc' := 0) (ms' := 0) (mc1 := 0) (ms1 := 0) (st := []) (b := (154 + q)) (κ := 4) (n := 3) (f := ftq) [vA 75, vI (N (15 + 11 * i)), vI ((i : Nat) : Int), vI (N 1)] dX5_readTrains_109 mwX4_worth lkX5_95 ((mk_dyn q).trans hqq) rc_X4 rfl (Nat.le_of_ble_eq_true rfl) (by omega) rfl rfl (c_X4_worthN (N := N) (t := ctq) (by omega) hv.2.2.2 (by omega) hxq (fun g2 => ?_))
      show Aj γ mX5_readTrains d 0 0 Post 112 [(5, vA (w + 7 + 2 * i)), (4, vI ((i : Nat) : Int)), (3, vA (154 + u)), (2, vA (154 + q)), (0, vA 63), (1, vA w)] [vI (woN N ctq (fc3 (N (15 + 11 * i)) ((i : Nat) : Int) (N 1)))] (mk (upR (up2 (up2 (up2 (up2 h1 65 i (N (16 + 11 * i))) 66 i (N (17 + 11 * i))) 67 i (N (19 + 11 * i))) 68 i (farF (N (15 + 11 * i)) (N (20 + 11 * i)))) 75 g2) τ)
      refine a_istore (lv' := [(6, vI (woN N ctq (fc3 (N (15 + 11 * i)) ((i : Nat) : Int) (N 1)))), (5, vA (w + 7 + 2 * i)), (4, vI ((i : Nat) : Int)), (3, vA (154 + u)), (2, vA (154 + q)), (0, vA 63), (1, vA w)]) dX5_readTrains_112 (by decide) rfl ?_
      refine a_aload_n (j := 5) dX5_readTrains_114 rfl rfl (Nat.le_of_ble_eq_true rfl) ?_
      refine b_getp (a := 63) (p := 70) dX5_readTrains_115 fwX5_34 (by decide) rfl (by decide) rfl rfl ?_
      refine a_iload (j := 2) dX5_readTrains_118 rfl ?_
      refine a_iload (j := 0) dX5_readTrains_120 rfl ?_
      refine a_iconst dX5_readTrains_122 ⟨by decide, by decide⟩ ?_
      refine a_bipush dX5_readTrains_123 ⟨by decide, by decide, by decide⟩ ?_
      refine a_callS (d' := d - 1) (mc' := 0) (ms' := 0) (mc1 := 0) (ms1 := 0) (st := [vI ((i : Nat) : Int), vA 70]) [vI (woN N ctq (fc3 (N (15 + 11 * i)) ((i : Nat) : Int) (N 1))), vI 0, vI 30] dX5_readTrains_125 mwX8_heldWithin lkX5_101 rfl (Nat.le_of_ble_eq_true rfl) (by omega) rfl rfl (c_X8_heldWithin  (by omega)   (show 0 ≤ 30 by omega) ?_)
      show Aj γ mX5_readTrains d 0 0 Post 128 [(6, vI (woN N ctq (fc3 (N (15 + 11 * i)) ((i : Nat) : Int) (N 1)))), (5, vA (w + 7 + 2 * i)), (4, vI ((i : Nat) : Int)), (3, vA (154 + u)), (2, vA (154 + q)), (0, vA 63), (1, vA w)] [vI (hwF (woN N ctq (fc3 (N (15 + 11 * i)) ((i : Nat) : Int) (N 1))) 0 30), vI ((i : Nat) : Int), vA 70] (mk (upR (up2 (up2 (up2 (up2 h1 65 i (N (16 + 11 * i))) 66 i (N (17 + 11 * i))) 67 i (N (19 + 11 * i))) 68 i (farF (N (15 + 11 * i)) (N (20 + 11 * i)))) 75 g2) τ)
      refine b_iastore (a := 70) i dX5_readTrains_128 (by decide) rfl rfl (by omega) (sp_nil rfl _) ?_
      refine a_aload_n (j := 3) dX5_readTrains_129 rfl rfl (Nat.le_of_ble_eq_true rfl) ?_
      refine a_ifnull (tgt := 142) dX5_readTrains_130 (by decide) (fun c => absurd c (by omega)) (fun _ => ?_)
      refine a_aload (j := 1) dX5_readTrains_133 rfl (Nat.le_of_ble_eq_true rfl) ?_
      refine b_get (a := (w + 7 + 2 * i)) (z := N (15 + 11 * i)) (t := 0) dX5_readTrains_135 fwX5_124 (by have := (tr_w hw (show i < 12 by omega)).1; omega) (tr_w hw (show i < 12 by omega)).2.1 (by decide) (tr_s (tr_w hw (show i < 12 by omega)) (by decide)) rfl ((up2_ne (by omega)).trans ((upR_ne (by omega)).trans ((up2_ne (by omega)).trans ((up2_ne (by omega)).trans ((up2_ne (by omega)).trans ((up2_ne (by omega)).trans ((Fr_v hF (by simp only [List.mem_cons, List.not_mem_nil, or_false]; omega)).trans (hR.2.2.1 i (by omega)).1))))))) ?_
      refine a_iconst dX5_readTrains_138 ⟨by decide, by decide⟩ ?_
      refine a_icmp_eq (tgt := 146) dX5_readTrains_139 (by decide) (fun c139_3 => ?_) (fun c139_3 => ?_)
      · refine a_aload_n (j := 3) dX5_readTrains_146 rfl rfl (Nat.le_of_ble_eq_true rfl) ?_
        refine a_aload_n (j := 5) dX5_readTrains_147 rfl rfl (Nat.le_of_ble_eq_true rfl) ?_
        refine b_getp (a := 63) (p := 75) dX5_readTrains_148 fwX5_49 (by decide) rfl (by decide) rfl rfl ?_
        refine a_iload (j := 2) dX5_readTrains_151 rfl ?_
        refine a_aload_n (j := 6) dX5_readTrains_153 rfl rfl (Nat.le_of_ble_eq_true rfl) ?_
        refine b_get (a := w) (z := N 1) (t := 0) dX5_readTrains_154 fwX5_92 (by rcases hw with rfl | rfl <;> decide) (by rcases hw with rfl | rfl <;> rfl) (by decide) (by rcases hw with rfl | rfl <;> rfl) rfl ((up2_ne (by omega)).trans ((upR_ne (by omega)).trans ((up2_ne (by omega)).trans ((up2_ne (by omega)).trans ((up2_ne (by omega)).trans ((up2_ne (by omega)).trans ((Fr_v hF (by simp only [List.mem_cons, List.not_mem_nil, or_false]; omega)).trans hR.1.2.2.2.2.2.2.1))))))) ?_
        refine a_iconst dX5_readTrains_157 ⟨by decide, by decide⟩ ?_
        obtain ⟨ftu, hqu, hqu_⟩ := id hxu
        refine a_callV (d' := d - 1) (mc' := 0) (ms' := 0) (mc1 := 0) (ms1 := 0) (st := []) (b := (154 + u)) (κ := 4) (n := 3) (f := ftu) [vA 75, vI ((i : Nat) : Int), vI (N 1), vI 0] dX5_readTrains_158 mwX4_worth lkX5_95 ((mk_dyn u).trans hqu) rc_X4 rfl (Nat.le_of_ble_eq_true rfl) (by omega) rfl rfl (c_X4_worthN (N := N) (t := ctu) (by omega) hv.2.2.2 (by omega) hxu (fun g4 => ?_))
        show Aj γ mX5_readTrains d 0 0 Post 161 [(6, vI (woN N ctq (fc3 (N (15 + 11 * i)) ((i : Nat) : Int) (N 1)))), (5, vA (w + 7 + 2 * i)), (4, vI ((i : Nat) : Int)), (3, vA (154 + u)), (2, vA (154 + q)), (0, vA 63), (1, vA w)] [vI (woN N ctu (fc3 ((i : Nat) : Int) (N 1) 0))] (mk (upR (up2 (upR (up2 (up2 (up2 (up2 h1 65 i (N (16 + 11 * i))) 66 i (N (17 + 11 * i))) 67 i (N (19 + 11 * i))) 68 i (farF (N (15 + 11 * i)) (N (20 + 11 * i)))) 75 g2) 70 i (hwF (woN N ctq (fc3 (N (15 + 11 * i)) ((i : Nat) : Int) (N 1))) 0 30)) 75 g4) τ)
        refine a_istore (lv' := [(7, vI (woN N ctu (fc3 ((i : Nat) : Int) (N 1) 0))), (6, vI (woN N ctq (fc3 (N (15 + 11 * i)) ((i : Nat) : Int) (N 1)))), (5, vA (w + 7 + 2 * i)), (4, vI ((i : Nat) : Int)), (3, vA (154 + u)), (2, vA (154 + q)), (0, vA 63), (1, vA w)]) dX5_readTrains_161 (by decide) rfl ?_
        refine a_aload_n (j := 6) dX5_readTrains_163 rfl rfl (Nat.le_of_ble_eq_true rfl) ?_
        refine b_getp (a := 63) (p := 69) dX5_readTrains_164 fwX5_31 (by decide) rfl (by decide) rfl rfl ?_
        refine a_iload (j := 3) dX5_readTrains_167 rfl ?_
        refine a_aload (j := 2) dX5_readTrains_169 rfl (Nat.le_of_ble_eq_true rfl) ?_
        refine b_get (a := (w + 7 + 2 * i)) (z := N (18 + 11 * i)) (t := 0) dX5_readTrains_171 fwX5_127 (by have := (tr_w hw (show i < 12 by omega)).1; omega) (tr_w hw (show i < 12 by omega)).2.1 (by decide) (tr_s (tr_w hw (show i < 12 by omega)) (by decide)) rfl ((upR_ne (by omega)).trans ((up2_ne (by omega)).trans ((upR_ne (by omega)).trans ((up2_ne (by omega)).trans ((up2_ne (by omega)).trans ((up2_ne (by omega)).trans ((up2_ne (by omega)).trans ((Fr_v hF (by simp only [List.mem_cons, List.not_mem_nil, or_false]; omega)).trans (hR.2.2.1 i (by omega)).2.2.2.1)))))))) ?_
        refine a_iload (j := 0) dX5_readTrains_174 rfl ?_
        refine a_iconst dX5_readTrains_176 ⟨by decide, by decide⟩ ?_
        refine a_bipush dX5_readTrains_177 ⟨by decide, by decide, by decide⟩ ?_
        refine a_callS (d' := d - 1) (mc' := 0) (ms' := 0) (mc1 := 0) (ms1 := 0) (st := [vI (N (18 + 11 * i)), vI ((i : Nat) : Int), vA 69]) [vI (woN N ctu (fc3 ((i : Nat) : Int) (N 1) 0)), vI 0, vI 120] dX5_readTrains_179 mwX8_heldWithin lkX5_101 rfl (Nat.le_of_ble_eq_true rfl) (by omega) rfl rfl (c_X8_heldWithin  (by omega)   (show 0 ≤ 120 by omega) ?_)
        show Aj γ mX5_readTrains d 0 0 Post 182 [(7, vI (woN N ctu (fc3 ((i : Nat) : Int) (N 1) 0))), (6, vI (woN N ctq (fc3 (N (15 + 11 * i)) ((i : Nat) : Int) (N 1)))), (5, vA (w + 7 + 2 * i)), (4, vI ((i : Nat) : Int)), (3, vA (154 + u)), (2, vA (154 + q)), (0, vA 63), (1, vA w)] [vI (hwF (woN N ctu (fc3 ((i : Nat) : Int) (N 1) 0)) 0 120), vI (N (18 + 11 * i)), vI ((i : Nat) : Int), vA 69] (mk (upR (up2 (upR (up2 (up2 (up2 (up2 h1 65 i (N (16 + 11 * i))) 66 i (N (17 + 11 * i))) 67 i (N (19 + 11 * i))) 68 i (farF (N (15 + 11 * i)) (N (20 + 11 * i)))) 75 g2) 70 i (hwF (woN N ctq (fc3 (N (15 + 11 * i)) ((i : Nat) : Int) (N 1))) 0 30)) 75 g4) τ)
        have hwr := hwF_rng (v := (woN N ctu (fc3 ((i : Nat) : Int) (N 1) 0))) (a := 0) (b := 120) (by omega)
        refine a_iadd (z := ((N (18 + 11 * i)) + (hwF (woN N ctu (fc3 ((i : Nat) : Int) (N 1) 0)) 0 120))) dX5_readTrains_182 (w_ok (by omega) (by omega)) ?_
        refine b_iastore (a := 69) i dX5_readTrains_183 (by decide) rfl rfl (by omega) (sp_nil rfl _) ?_
        refine a_aload_n (j := 6) dX5_readTrains_184 rfl rfl (Nat.le_of_ble_eq_true rfl) ?_
        refine a_iload (j := 3) dX5_readTrains_185 rfl ?_
        refine a_aload (j := 2) dX5_readTrains_187 rfl (Nat.le_of_ble_eq_true rfl) ?_
        have ra : (up2 (upR (up2 (upR (up2 (up2 (up2 (up2 h1 65 i (N (16 + 11 * i))) 66 i (N (17 + 11 * i))) 67 i (N (19 + 11 * i))) 68 i (farF (N (15 + 11 * i)) (N (20 + 11 * i)))) 75 g2) 70 i (hwF (woN N ctq (fc3 (N (15 + 11 * i)) ((i : Nat) : Int) (N 1))) 0 30)) 75 g4) 69 i ((N (18 + 11 * i)) + (hwF (woN N ctu (fc3 ((i : Nat) : Int) (N 1) 0)) 0 120))) (w + 7 + 2 * i) = h (w + 7 + 2 * i) := ((up2_row (by omega)).trans ((upR_rn (by omega)).trans ((up2_row (by omega)).trans ((upR_rn (by omega)).trans ((up2_row (by omega)).trans ((up2_row (by omega)).trans ((up2_row (by omega)).trans ((up2_row (by omega)).trans ((hF (w + 7 + 2 * i) (by simp only [List.mem_cons, List.not_mem_nil, or_false]; omega)).trans rfl)))))))))
        have rb : (up2 (upR (up2 (upR (up2 (up2 (up2 (up2 h1 65 i (N (16 + 11 * i))) 66 i (N (17 + 11 * i))) 67 i (N (19 + 11 * i))) 68 i (farF (N (15 + 11 * i)) (N (20 + 11 * i)))) 75 g2) 70 i (hwF (woN N ctq (fc3 (N (15 + 11 * i)) ((i : Nat) : Int) (N 1))) 0 30)) 75 g4) 69 i ((N (18 + 11 * i)) + (hwF (woN N ctu (fc3 ((i : Nat) : Int) (N 1) 0)) 0 120))) ((w + 7 + 2 * i) + 1) = h ((w + 7 + 2 * i) + 1) := ((up2_row (by omega)).trans ((upR_rn (by omega)).trans ((up2_row (by omega)).trans ((upR_rn (by omega)).trans ((up2_row (by omega)).trans ((up2_row (by omega)).trans ((up2_row (by omega)).trans ((up2_row (by omega)).trans ((hF ((w + 7 + 2 * i) + 1) (by simp only [List.mem_cons, List.not_mem_nil, or_false]; omega)).trans rfl)))))))))
        have o65 : ∀ u : Nat, u < i → (up2 (upR (up2 (upR (up2 (up2 (up2 (up2 h1 65 i (N (16 + 11 * i))) 66 i (N (17 + 11 * i))) 67 i (N (19 + 11 * i))) 68 i (farF (N (15 + 11 * i)) (N (20 + 11 * i)))) 75 g2) 70 i (hwF (woN N ctq (fc3 (N (15 + 11 * i)) ((i : Nat) : Int) (N 1))) 0 30)) 75 g4) 69 i ((N (18 + 11 * i)) + (hwF (woN N ctu (fc3 ((i : Nat) : Int) (N 1) 0)) 0 120))) 65 u = h1 65 u := fun u hu => ((up2_ne (by omega)).trans ((upR_ne (by omega)).trans ((up2_ne (by omega)).trans ((upR_ne (by omega)).trans ((up2_ne (by omega)).trans ((up2_ne (by omega)).trans ((up2_ne (by omega)).trans ((up2_ne (by omega)).trans rfl))))))))
        have o66 : ∀ u : Nat, u < i → (up2 (upR (up2 (upR (up2 (up2 (up2 (up2 h1 65 i (N (16 + 11 * i))) 66 i (N (17 + 11 * i))) 67 i (N (19 + 11 * i))) 68 i (farF (N (15 + 11 * i)) (N (20 + 11 * i)))) 75 g2) 70 i (hwF (woN N ctq (fc3 (N (15 + 11 * i)) ((i : Nat) : Int) (N 1))) 0 30)) 75 g4) 69 i ((N (18 + 11 * i)) + (hwF (woN N ctu (fc3 ((i : Nat) : Int) (N 1) 0)) 0 120))) 66 u = h1 66 u := fun u hu => ((up2_ne (by omega)).trans ((upR_ne (by omega)).trans ((up2_ne (by omega)).trans ((upR_ne (by omega)).trans ((up2_ne (by omega)).trans ((up2_ne (by omega)).trans ((up2_ne (by omega)).trans ((up2_ne (by omega)).trans rfl))))))))
        have o67 : ∀ u : Nat, u < i → (up2 (upR (up2 (upR (up2 (up2 (up2 (up2 h1 65 i (N (16 + 11 * i))) 66 i (N (17 + 11 * i))) 67 i (N (19 + 11 * i))) 68 i (farF (N (15 + 11 * i)) (N (20 + 11 * i)))) 75 g2) 70 i (hwF (woN N ctq (fc3 (N (15 + 11 * i)) ((i : Nat) : Int) (N 1))) 0 30)) 75 g4) 69 i ((N (18 + 11 * i)) + (hwF (woN N ctu (fc3 ((i : Nat) : Int) (N 1) 0)) 0 120))) 67 u = h1 67 u := fun u hu => ((up2_ne (by omega)).trans ((upR_ne (by omega)).trans ((up2_ne (by omega)).trans ((upR_ne (by omega)).trans ((up2_ne (by omega)).trans ((up2_ne (by omega)).trans ((up2_ne (by omega)).trans ((up2_ne (by omega)).trans rfl))))))))
        have o68 : ∀ u : Nat, u < i → (up2 (upR (up2 (upR (up2 (up2 (up2 (up2 h1 65 i (N (16 + 11 * i))) 66 i (N (17 + 11 * i))) 67 i (N (19 + 11 * i))) 68 i (farF (N (15 + 11 * i)) (N (20 + 11 * i)))) 75 g2) 70 i (hwF (woN N ctq (fc3 (N (15 + 11 * i)) ((i : Nat) : Int) (N 1))) 0 30)) 75 g4) 69 i ((N (18 + 11 * i)) + (hwF (woN N ctu (fc3 ((i : Nat) : Int) (N 1) 0)) 0 120))) 68 u = h1 68 u := fun u hu => ((up2_ne (by omega)).trans ((upR_ne (by omega)).trans ((up2_ne (by omega)).trans ((upR_ne (by omega)).trans ((up2_ne (by omega)).trans ((up2_ne (by omega)).trans ((up2_ne (by omega)).trans ((up2_ne (by omega)).trans rfl))))))))
        have o69 : ∀ u : Nat, u < i → (up2 (upR (up2 (upR (up2 (up2 (up2 (up2 h1 65 i (N (16 + 11 * i))) 66 i (N (17 + 11 * i))) 67 i (N (19 + 11 * i))) 68 i (farF (N (15 + 11 * i)) (N (20 + 11 * i)))) 75 g2) 70 i (hwF (woN N ctq (fc3 (N (15 + 11 * i)) ((i : Nat) : Int) (N 1))) 0 30)) 75 g4) 69 i ((N (18 + 11 * i)) + (hwF (woN N ctu (fc3 ((i : Nat) : Int) (N 1) 0)) 0 120))) 69 u = h1 69 u := fun u hu => ((up2_ne (by omega)).trans ((upR_ne (by omega)).trans ((up2_ne (by omega)).trans ((upR_ne (by omega)).trans ((up2_ne (by omega)).trans ((up2_ne (by omega)).trans ((up2_ne (by omega)).trans ((up2_ne (by omega)).trans rfl))))))))
        have o70 : ∀ u : Nat, u < i → (up2 (upR (up2 (upR (up2 (up2 (up2 (up2 h1 65 i (N (16 + 11 * i))) 66 i (N (17 + 11 * i))) 67 i (N (19 + 11 * i))) 68 i (farF (N (15 + 11 * i)) (N (20 + 11 * i)))) 75 g2) 70 i (hwF (woN N ctq (fc3 (N (15 + 11 * i)) ((i : Nat) : Int) (N 1))) 0 30)) 75 g4) 69 i ((N (18 + 11 * i)) + (hwF (woN N ctu (fc3 ((i : Nat) : Int) (N 1) 0)) 0 120))) 70 u = h1 70 u := fun u hu => ((up2_ne (by omega)).trans ((upR_ne (by omega)).trans ((up2_ne (by omega)).trans ((upR_ne (by omega)).trans ((up2_ne (by omega)).trans ((up2_ne (by omega)).trans ((up2_ne (by omega)).trans ((up2_ne (by omega)).trans rfl))))))))
        have o71 : ∀ u : Nat, (up2 (upR (up2 (upR (up2 (up2 (up2 (up2 h1 65 i (N (16 + 11 * i))) 66 i (N (17 + 11 * i))) 67 i (N (19 + 11 * i))) 68 i (farF (N (15 + 11 * i)) (N (20 + 11 * i)))) 75 g2) 70 i (hwF (woN N ctq (fc3 (N (15 + 11 * i)) ((i : Nat) : Int) (N 1))) 0 30)) 75 g4) 69 i ((N (18 + 11 * i)) + (hwF (woN N ctu (fc3 ((i : Nat) : Int) (N 1) 0)) 0 120))) 71 u = h1 71 u := fun u => ((up2_ne (by omega)).trans ((upR_ne (by omega)).trans ((up2_ne (by omega)).trans ((upR_ne (by omega)).trans ((up2_ne (by omega)).trans ((up2_ne (by omega)).trans ((up2_ne (by omega)).trans ((up2_ne (by omega)).trans rfl))))))))
        have o72 : ∀ u : Nat, (up2 (upR (up2 (upR (up2 (up2 (up2 (up2 h1 65 i (N (16 + 11 * i))) 66 i (N (17 + 11 * i))) 67 i (N (19 + 11 * i))) 68 i (farF (N (15 + 11 * i)) (N (20 + 11 * i)))) 75 g2) 70 i (hwF (woN N ctq (fc3 (N (15 + 11 * i)) ((i : Nat) : Int) (N 1))) 0 30)) 75 g4) 69 i ((N (18 + 11 * i)) + (hwF (woN N ctu (fc3 ((i : Nat) : Int) (N 1) 0)) 0 120))) 72 u = h1 72 u := fun u => ((up2_ne (by omega)).trans ((upR_ne (by omega)).trans ((up2_ne (by omega)).trans ((upR_ne (by omega)).trans ((up2_ne (by omega)).trans ((up2_ne (by omega)).trans ((up2_ne (by omega)).trans ((up2_ne (by omega)).trans rfl))))))))
        have n65 : (up2 (upR (up2 (upR (up2 (up2 (up2 (up2 h1 65 i (N (16 + 11 * i))) 66 i (N (17 + 11 * i))) 67 i (N (19 + 11 * i))) 68 i (farF (N (15 + 11 * i)) (N (20 + 11 * i)))) 75 g2) 70 i (hwF (woN N ctq (fc3 (N (15 + 11 * i)) ((i : Nat) : Int) (N 1))) 0 30)) 75 g4) 69 i ((N (18 + 11 * i)) + (hwF (woN N ctu (fc3 ((i : Nat) : Int) (N 1) 0)) 0 120))) 65 i = N (16 + 11 * i) := ((up2_ne (by omega)).trans ((upR_ne (by omega)).trans ((up2_ne (by omega)).trans ((upR_ne (by omega)).trans ((up2_ne (by omega)).trans ((up2_ne (by omega)).trans ((up2_ne (by omega)).trans up2_at)))))))
        have n66 : (up2 (upR (up2 (upR (up2 (up2 (up2 (up2 h1 65 i (N (16 + 11 * i))) 66 i (N (17 + 11 * i))) 67 i (N (19 + 11 * i))) 68 i (farF (N (15 + 11 * i)) (N (20 + 11 * i)))) 75 g2) 70 i (hwF (woN N ctq (fc3 (N (15 + 11 * i)) ((i : Nat) : Int) (N 1))) 0 30)) 75 g4) 69 i ((N (18 + 11 * i)) + (hwF (woN N ctu (fc3 ((i : Nat) : Int) (N 1) 0)) 0 120))) 66 i = N (17 + 11 * i) := ((up2_ne (by omega)).trans ((upR_ne (by omega)).trans ((up2_ne (by omega)).trans ((upR_ne (by omega)).trans ((up2_ne (by omega)).trans ((up2_ne (by omega)).trans up2_at))))))
        have n67 : (up2 (upR (up2 (upR (up2 (up2 (up2 (up2 h1 65 i (N (16 + 11 * i))) 66 i (N (17 + 11 * i))) 67 i (N (19 + 11 * i))) 68 i (farF (N (15 + 11 * i)) (N (20 + 11 * i)))) 75 g2) 70 i (hwF (woN N ctq (fc3 (N (15 + 11 * i)) ((i : Nat) : Int) (N 1))) 0 30)) 75 g4) 69 i ((N (18 + 11 * i)) + (hwF (woN N ctu (fc3 ((i : Nat) : Int) (N 1) 0)) 0 120))) 67 i = N (19 + 11 * i) := ((up2_ne (by omega)).trans ((upR_ne (by omega)).trans ((up2_ne (by omega)).trans ((upR_ne (by omega)).trans ((up2_ne (by omega)).trans up2_at)))))
        have n68 : (up2 (upR (up2 (upR (up2 (up2 (up2 (up2 h1 65 i (N (16 + 11 * i))) 66 i (N (17 + 11 * i))) 67 i (N (19 + 11 * i))) 68 i (farF (N (15 + 11 * i)) (N (20 + 11 * i)))) 75 g2) 70 i (hwF (woN N ctq (fc3 (N (15 + 11 * i)) ((i : Nat) : Int) (N 1))) 0 30)) 75 g4) 69 i ((N (18 + 11 * i)) + (hwF (woN N ctu (fc3 ((i : Nat) : Int) (N 1) 0)) 0 120))) 68 i = (farF (N (15 + 11 * i)) (N (20 + 11 * i))) := ((up2_ne (by omega)).trans ((upR_ne (by omega)).trans ((up2_ne (by omega)).trans ((upR_ne (by omega)).trans up2_at))))
        have n69 : (up2 (upR (up2 (upR (up2 (up2 (up2 (up2 h1 65 i (N (16 + 11 * i))) 66 i (N (17 + 11 * i))) 67 i (N (19 + 11 * i))) 68 i (farF (N (15 + 11 * i)) (N (20 + 11 * i)))) 75 g2) 70 i (hwF (woN N ctq (fc3 (N (15 + 11 * i)) ((i : Nat) : Int) (N 1))) 0 30)) 75 g4) 69 i ((N (18 + 11 * i)) + (hwF (woN N ctu (fc3 ((i : Nat) : Int) (N 1) 0)) 0 120))) 69 i = ((N (18 + 11 * i)) + (hwF (woN N ctu (fc3 ((i : Nat) : Int) (N 1) 0)) 0 120)) := up2_at
        have n70 : (up2 (upR (up2 (upR (up2 (up2 (up2 (up2 h1 65 i (N (16 + 11 * i))) 66 i (N (17 + 11 * i))) 67 i (N (19 + 11 * i))) 68 i (farF (N (15 + 11 * i)) (N (20 + 11 * i)))) 75 g2) 70 i (hwF (woN N ctq (fc3 (N (15 + 11 * i)) ((i : Nat) : Int) (N 1))) 0 30)) 75 g4) 69 i ((N (18 + 11 * i)) + (hwF (woN N ctu (fc3 ((i : Nat) : Int) (N 1) 0)) 0 120))) 70 i = (hwF (woN N ctq (fc3 (N (15 + 11 * i)) ((i : Nat) : Int) (N 1))) 0 30) := ((up2_ne (by omega)).trans ((upR_ne (by omega)).trans up2_at))
        have hwt : (hwF (woN N ctq (fc3 (N (15 + 11 * i)) ((i : Nat) : Int) (N 1))) 0 30) = wtN N i := by
          unfold wtN; rw [if_neg (by omega), hctq]; rfl
        have hgo : ((N (18 + 11 * i)) + (hwF (woN N ctu (fc3 ((i : Nat) : Int) (N 1) 0)) 0 120)) = goN N i := by
          unfold goN
          have e : tdN N i = hwF (woN N ctu (fc3 i (N 1) 0)) 0 120 := by unfold tdN; rw [if_neg (by omega), hctu]; rfl
          first | (rw [if_pos (by omega), e]; done) | (rw [if_neg (by omega)]; rfl)
        refine b_callV (d' := d - 1) (mc' := 0) (ms' := 0) (mc1 := 0) (ms1 := 0) (st := []) (b := 63) [vI ((i : Nat) : Int), vA (w + 7 + 2 * i)] dX5_readTrains_189 mwX5_readSteps lkX5_130 (by decide) rfl rc_X5 rfl (Nat.le_of_ble_eq_true rfl) (by omega) rfl rfl (c_X5_readSteps (N := N) (by omega) (tr_w hw (show i < 12 by omega)) (by omega) (by omega) (trW_fr ra rb (hR.2.2.1 i (by omega))) hr (n69.trans hgo) (fun u hu => ⟨(o69 u hu).trans (iv u hu).2.2.2.2.1, goN_rng (hv.2.2.1 u (by omega))⟩) (fun u hu s hs => (o72 _).trans (iw u hu s hs).2) (fun h9 hG9 j1 j2 => ?_))
        show Aj γ mX5_readTrains d 0 0 Post 192 [(7, vI (woN N ctu (fc3 ((i : Nat) : Int) (N 1) 0))), (6, vI (woN N ctq (fc3 (N (15 + 11 * i)) ((i : Nat) : Int) (N 1)))), (5, vA (w + 7 + 2 * i)), (4, vI ((i : Nat) : Int)), (3, vA (154 + u)), (2, vA (154 + q)), (0, vA 63), (1, vA w)] [] (mk h9 τ)
        refine a_iinc (j := 3) (z' := ((i + 1 : Nat) : Int)) (lv' := [(4, vI ((i + 1 : Nat) : Int)), (7, vI (woN N ctu (fc3 ((i : Nat) : Int) (N 1) 0))), (6, vI (woN N ctq (fc3 (N (15 + 11 * i)) ((i : Nat) : Int) (N 1)))), (5, vA (w + 7 + 2 * i)), (3, vA (154 + u)), (2, vA (154 + q)), (0, vA 63), (1, vA w)]) dX5_readTrains_192 rfl (w_okN (by omega) (by omega) (by omega)) (by decide) rfl ?_
        refine a_goto (tgt := 15) dX5_readTrains_195 (by decide) ?_
        refine a_lv (lv' := [(4, vI (((i + 1) : Nat) : Int)), (3, vA (154 + u)), (2, vA (154 + q)), (0, vA 63), (1, vA w)]) (by intro q hq; simp only [List.mem_cons, List.not_mem_nil, or_false] at hq ⊢; rcases hq with rfl | rfl | rfl | rfl | rfl <;> simp) (ih (i + 1) h9  (by omega) (by omega) (Fr_t (Fr_u (by decide) (Fr_R (by decide) (Fr_u (by decide) (Fr_R (by decide) (Fr_u (by decide) (Fr_u (by decide) (Fr_u (by decide) (Fr_u (by decide) (Fr_m (by decide) hF))))))))) (Fr_m (by decide) hG9)) (fun u hu => by
          rw [Fr_v hG9 (by decide), Fr_v hG9 (by decide), Fr_v hG9 (by decide), Fr_v hG9 (by decide), Fr_v hG9 (by decide), Fr_v hG9 (by decide)]
          by_cases c : u = i
          · subst c; exact ⟨n65, n66, n67, n68, n69.trans hgo, n70.trans hwt⟩
          · rw [o65 u (by omega), o66 u (by omega), o67 u (by omega), o68 u (by omega), o69 u (by omega), o70 u (by omega)]; exact iv u (by omega)) (fun u hu s hs => by
          by_cases c : u = i
          · subst c; exact j1 s hs
          · rw [(j2 _ (by omega)).1, (j2 _ (by omega)).2, o71, o72]; exact iw u (by omega) s hs))
      · refine a_iconst dX5_readTrains_142 ⟨by decide, by decide⟩ ?_
        refine a_goto (tgt := 161) dX5_readTrains_143 (by decide) ?_
        refine a_istore (lv' := [(7, vI 0), (6, vI (woN N ctq (fc3 (N (15 + 11 * i)) ((i : Nat) : Int) (N 1)))), (5, vA (w + 7 + 2 * i)), (4, vI ((i : Nat) : Int)), (3, vA (154 + u)), (2, vA (154 + q)), (0, vA 63), (1, vA w)]) dX5_readTrains_161 (by decide) rfl ?_
        refine a_aload_n (j := 6) dX5_readTrains_163 rfl rfl (Nat.le_of_ble_eq_true rfl) ?_
        refine b_getp (a := 63) (p := 69) dX5_readTrains_164 fwX5_31 (by decide) rfl (by decide) rfl rfl ?_
        refine a_iload (j := 3) dX5_readTrains_167 rfl ?_
        refine a_aload (j := 2) dX5_readTrains_169 rfl (Nat.le_of_ble_eq_true rfl) ?_
        refine b_get (a := (w + 7 + 2 * i)) (z := N (18 + 11 * i)) (t := 0) dX5_readTrains_171 fwX5_127 (by have := (tr_w hw (show i < 12 by omega)).1; omega) (tr_w hw (show i < 12 by omega)).2.1 (by decide) (tr_s (tr_w hw (show i < 12 by omega)) (by decide)) rfl ((up2_ne (by omega)).trans ((upR_ne (by omega)).trans ((up2_ne (by omega)).trans ((up2_ne (by omega)).trans ((up2_ne (by omega)).trans ((up2_ne (by omega)).trans ((Fr_v hF (by simp only [List.mem_cons, List.not_mem_nil, or_false]; omega)).trans (hR.2.2.1 i (by omega)).2.2.2.1))))))) ?_
        refine a_iload (j := 0) dX5_readTrains_174 rfl ?_
        refine a_iconst dX5_readTrains_176 ⟨by decide, by decide⟩ ?_
        refine a_bipush dX5_readTrains_177 ⟨by decide, by decide, by decide⟩ ?_
        refine a_callS (d' := d - 1) (mc' := 0) (ms' := 0) (mc1 := 0) (ms1 := 0) (st := [vI (N (18 + 11 * i)), vI ((i : Nat) : Int), vA 69]) [vI 0, vI 0, vI 120] dX5_readTrains_179 mwX8_heldWithin lkX5_101 rfl (Nat.le_of_ble_eq_true rfl) (by omega) rfl rfl (c_X8_heldWithin  (by omega)   (show 0 ≤ 120 by omega) ?_)
        show Aj γ mX5_readTrains d 0 0 Post 182 [(7, vI 0), (6, vI (woN N ctq (fc3 (N (15 + 11 * i)) ((i : Nat) : Int) (N 1)))), (5, vA (w + 7 + 2 * i)), (4, vI ((i : Nat) : Int)), (3, vA (154 + u)), (2, vA (154 + q)), (0, vA 63), (1, vA w)] [vI (hwF 0 0 120), vI (N (18 + 11 * i)), vI ((i : Nat) : Int), vA 69] (mk (up2 (upR (up2 (up2 (up2 (up2 h1 65 i (N (16 + 11 * i))) 66 i (N (17 + 11 * i))) 67 i (N (19 + 11 * i))) 68 i (farF (N (15 + 11 * i)) (N (20 + 11 * i)))) 75 g2) 70 i (hwF (woN N ctq (fc3 (N (15 + 11 * i)) ((i : Nat) : Int) (N 1))) 0 30)) τ)
        have hwr := hwF_rng (v := 0) (a := 0) (b := 120) (by omega)
        refine a_iadd (z := ((N (18 + 11 * i)) + (hwF 0 0 120))) dX5_readTrains_182 (w_ok (by omega) (by omega)) ?_
        refine b_iastore (a := 69) i dX5_readTrains_183 (by decide) rfl rfl (by omega) (sp_nil rfl _) ?_
        refine a_aload_n (j := 6) dX5_readTrains_184 rfl rfl (Nat.le_of_ble_eq_true rfl) ?_
        refine a_iload (j := 3) dX5_readTrains_185 rfl ?_
        refine a_aload (j := 2) dX5_readTrains_187 rfl (Nat.le_of_ble_eq_true rfl) ?_
        have ra : (up2 (up2 (upR (up2 (up2 (up2 (up2 h1 65 i (N (16 + 11 * i))) 66 i (N (17 + 11 * i))) 67 i (N (19 + 11 * i))) 68 i (farF (N (15 + 11 * i)) (N (20 + 11 * i)))) 75 g2) 70 i (hwF (woN N ctq (fc3 (N (15 + 11 * i)) ((i : Nat) : Int) (N 1))) 0 30)) 69 i ((N (18 + 11 * i)) + (hwF 0 0 120))) (w + 7 + 2 * i) = h (w + 7 + 2 * i) := ((up2_row (by omega)).trans ((up2_row (by omega)).trans ((upR_rn (by omega)).trans ((up2_row (by omega)).trans ((up2_row (by omega)).trans ((up2_row (by omega)).trans ((up2_row (by omega)).trans ((hF (w + 7 + 2 * i) (by simp only [List.mem_cons, List.not_mem_nil, or_false]; omega)).trans rfl))))))))
        have rb : (up2 (up2 (upR (up2 (up2 (up2 (up2 h1 65 i (N (16 + 11 * i))) 66 i (N (17 + 11 * i))) 67 i (N (19 + 11 * i))) 68 i (farF (N (15 + 11 * i)) (N (20 + 11 * i)))) 75 g2) 70 i (hwF (woN N ctq (fc3 (N (15 + 11 * i)) ((i : Nat) : Int) (N 1))) 0 30)) 69 i ((N (18 + 11 * i)) + (hwF 0 0 120))) ((w + 7 + 2 * i) + 1) = h ((w + 7 + 2 * i) + 1) := ((up2_row (by omega)).trans ((up2_row (by omega)).trans ((upR_rn (by omega)).trans ((up2_row (by omega)).trans ((up2_row (by omega)).trans ((up2_row (by omega)).trans ((up2_row (by omega)).trans ((hF ((w + 7 + 2 * i) + 1) (by simp only [List.mem_cons, List.not_mem_nil, or_false]; omega)).trans rfl))))))))
        have o65 : ∀ u : Nat, u < i → (up2 (up2 (upR (up2 (up2 (up2 (up2 h1 65 i (N (16 + 11 * i))) 66 i (N (17 + 11 * i))) 67 i (N (19 + 11 * i))) 68 i (farF (N (15 + 11 * i)) (N (20 + 11 * i)))) 75 g2) 70 i (hwF (woN N ctq (fc3 (N (15 + 11 * i)) ((i : Nat) : Int) (N 1))) 0 30)) 69 i ((N (18 + 11 * i)) + (hwF 0 0 120))) 65 u = h1 65 u := fun u hu => ((up2_ne (by omega)).trans ((up2_ne (by omega)).trans ((upR_ne (by omega)).trans ((up2_ne (by omega)).trans ((up2_ne (by omega)).trans ((up2_ne (by omega)).trans ((up2_ne (by omega)).trans rfl)))))))
        have o66 : ∀ u : Nat, u < i → (up2 (up2 (upR (up2 (up2 (up2 (up2 h1 65 i (N (16 + 11 * i))) 66 i (N (17 + 11 * i))) 67 i (N (19 + 11 * i))) 68 i (farF (N (15 + 11 * i)) (N (20 + 11 * i)))) 75 g2) 70 i (hwF (woN N ctq (fc3 (N (15 + 11 * i)) ((i : Nat) : Int) (N 1))) 0 30)) 69 i ((N (18 + 11 * i)) + (hwF 0 0 120))) 66 u = h1 66 u := fun u hu => ((up2_ne (by omega)).trans ((up2_ne (by omega)).trans ((upR_ne (by omega)).trans ((up2_ne (by omega)).trans ((up2_ne (by omega)).trans ((up2_ne (by omega)).trans ((up2_ne (by omega)).trans rfl)))))))
        have o67 : ∀ u : Nat, u < i → (up2 (up2 (upR (up2 (up2 (up2 (up2 h1 65 i (N (16 + 11 * i))) 66 i (N (17 + 11 * i))) 67 i (N (19 + 11 * i))) 68 i (farF (N (15 + 11 * i)) (N (20 + 11 * i)))) 75 g2) 70 i (hwF (woN N ctq (fc3 (N (15 + 11 * i)) ((i : Nat) : Int) (N 1))) 0 30)) 69 i ((N (18 + 11 * i)) + (hwF 0 0 120))) 67 u = h1 67 u := fun u hu => ((up2_ne (by omega)).trans ((up2_ne (by omega)).trans ((upR_ne (by omega)).trans ((up2_ne (by omega)).trans ((up2_ne (by omega)).trans ((up2_ne (by omega)).trans ((up2_ne (by omega)).trans rfl)))))))
        have o68 : ∀ u : Nat, u < i → (up2 (up2 (upR (up2 (up2 (up2 (up2 h1 65 i (N (16 + 11 * i))) 66 i (N (17 + 11 * i))) 67 i (N (19 + 11 * i))) 68 i (farF (N (15 + 11 * i)) (N (20 + 11 * i)))) 75 g2) 70 i (hwF (woN N ctq (fc3 (N (15 + 11 * i)) ((i : Nat) : Int) (N 1))) 0 30)) 69 i ((N (18 + 11 * i)) + (hwF 0 0 120))) 68 u = h1 68 u := fun u hu => ((up2_ne (by omega)).trans ((up2_ne (by omega)).trans ((upR_ne (by omega)).trans ((up2_ne (by omega)).trans ((up2_ne (by omega)).trans ((up2_ne (by omega)).trans ((up2_ne (by omega)).trans rfl)))))))
        have o69 : ∀ u : Nat, u < i → (up2 (up2 (upR (up2 (up2 (up2 (up2 h1 65 i (N (16 + 11 * i))) 66 i (N (17 + 11 * i))) 67 i (N (19 + 11 * i))) 68 i (farF (N (15 + 11 * i)) (N (20 + 11 * i)))) 75 g2) 70 i (hwF (woN N ctq (fc3 (N (15 + 11 * i)) ((i : Nat) : Int) (N 1))) 0 30)) 69 i ((N (18 + 11 * i)) + (hwF 0 0 120))) 69 u = h1 69 u := fun u hu => ((up2_ne (by omega)).trans ((up2_ne (by omega)).trans ((upR_ne (by omega)).trans ((up2_ne (by omega)).trans ((up2_ne (by omega)).trans ((up2_ne (by omega)).trans ((up2_ne (by omega)).trans rfl)))))))
        have o70 : ∀ u : Nat, u < i → (up2 (up2 (upR (up2 (up2 (up2 (up2 h1 65 i (N (16 + 11 * i))) 66 i (N (17 + 11 * i))) 67 i (N (19 + 11 * i))) 68 i (farF (N (15 + 11 * i)) (N (20 + 11 * i)))) 75 g2) 70 i (hwF (woN N ctq (fc3 (N (15 + 11 * i)) ((i : Nat) : Int) (N 1))) 0 30)) 69 i ((N (18 + 11 * i)) + (hwF 0 0 120))) 70 u = h1 70 u := fun u hu => ((up2_ne (by omega)).trans ((up2_ne (by omega)).trans ((upR_ne (by omega)).trans ((up2_ne (by omega)).trans ((up2_ne (by omega)).trans ((up2_ne (by omega)).trans ((up2_ne (by omega)).trans rfl)))))))
        have o71 : ∀ u : Nat, (up2 (up2 (upR (up2 (up2 (up2 (up2 h1 65 i (N (16 + 11 * i))) 66 i (N (17 + 11 * i))) 67 i (N (19 + 11 * i))) 68 i (farF (N (15 + 11 * i)) (N (20 + 11 * i)))) 75 g2) 70 i (hwF (woN N ctq (fc3 (N (15 + 11 * i)) ((i : Nat) : Int) (N 1))) 0 30)) 69 i ((N (18 + 11 * i)) + (hwF 0 0 120))) 71 u = h1 71 u := fun u => ((up2_ne (by omega)).trans ((up2_ne (by omega)).trans ((upR_ne (by omega)).trans ((up2_ne (by omega)).trans ((up2_ne (by omega)).trans ((up2_ne (by omega)).trans ((up2_ne (by omega)).trans rfl)))))))
        have o72 : ∀ u : Nat, (up2 (up2 (upR (up2 (up2 (up2 (up2 h1 65 i (N (16 + 11 * i))) 66 i (N (17 + 11 * i))) 67 i (N (19 + 11 * i))) 68 i (farF (N (15 + 11 * i)) (N (20 + 11 * i)))) 75 g2) 70 i (hwF (woN N ctq (fc3 (N (15 + 11 * i)) ((i : Nat) : Int) (N 1))) 0 30)) 69 i ((N (18 + 11 * i)) + (hwF 0 0 120))) 72 u = h1 72 u := fun u => ((up2_ne (by omega)).trans ((up2_ne (by omega)).trans ((upR_ne (by omega)).trans ((up2_ne (by omega)).trans ((up2_ne (by omega)).trans ((up2_ne (by omega)).trans ((up2_ne (by omega)).trans rfl)))))))
        have n65 : (up2 (up2 (upR (up2 (up2 (up2 (up2 h1 65 i (N (16 + 11 * i))) 66 i (N (17 + 11 * i))) 67 i (N (19 + 11 * i))) 68 i (farF (N (15 + 11 * i)) (N (20 + 11 * i)))) 75 g2) 70 i (hwF (woN N ctq (fc3 (N (15 + 11 * i)) ((i : Nat) : Int) (N 1))) 0 30)) 69 i ((N (18 + 11 * i)) + (hwF 0 0 120))) 65 i = N (16 + 11 * i) := ((up2_ne (by omega)).trans ((up2_ne (by omega)).trans ((upR_ne (by omega)).trans ((up2_ne (by omega)).trans ((up2_ne (by omega)).trans ((up2_ne (by omega)).trans up2_at))))))
        have n66 : (up2 (up2 (upR (up2 (up2 (up2 (up2 h1 65 i (N (16 + 11 * i))) 66 i (N (17 + 11 * i))) 67 i (N (19 + 11 * i))) 68 i (farF (N (15 + 11 * i)) (N (20 + 11 * i)))) 75 g2) 70 i (hwF (woN N ctq (fc3 (N (15 + 11 * i)) ((i : Nat) : Int) (N 1))) 0 30)) 69 i ((N (18 + 11 * i)) + (hwF 0 0 120))) 66 i = N (17 + 11 * i) := ((up2_ne (by omega)).trans ((up2_ne (by omega)).trans ((upR_ne (by omega)).trans ((up2_ne (by omega)).trans ((up2_ne (by omega)).trans up2_at)))))
        have n67 : (up2 (up2 (upR (up2 (up2 (up2 (up2 h1 65 i (N (16 + 11 * i))) 66 i (N (17 + 11 * i))) 67 i (N (19 + 11 * i))) 68 i (farF (N (15 + 11 * i)) (N (20 + 11 * i)))) 75 g2) 70 i (hwF (woN N ctq (fc3 (N (15 + 11 * i)) ((i : Nat) : Int) (N 1))) 0 30)) 69 i ((N (18 + 11 * i)) + (hwF 0 0 120))) 67 i = N (19 + 11 * i) := ((up2_ne (by omega)).trans ((up2_ne (by omega)).trans ((upR_ne (by omega)).trans ((up2_ne (by omega)).trans up2_at))))
        have n68 : (up2 (up2 (upR (up2 (up2 (up2 (up2 h1 65 i (N (16 + 11 * i))) 66 i (N (17 + 11 * i))) 67 i (N (19 + 11 * i))) 68 i (farF (N (15 + 11 * i)) (N (20 + 11 * i)))) 75 g2) 70 i (hwF (woN N ctq (fc3 (N (15 + 11 * i)) ((i : Nat) : Int) (N 1))) 0 30)) 69 i ((N (18 + 11 * i)) + (hwF 0 0 120))) 68 i = (farF (N (15 + 11 * i)) (N (20 + 11 * i))) := ((up2_ne (by omega)).trans ((up2_ne (by omega)).trans ((upR_ne (by omega)).trans up2_at)))
        have n69 : (up2 (up2 (upR (up2 (up2 (up2 (up2 h1 65 i (N (16 + 11 * i))) 66 i (N (17 + 11 * i))) 67 i (N (19 + 11 * i))) 68 i (farF (N (15 + 11 * i)) (N (20 + 11 * i)))) 75 g2) 70 i (hwF (woN N ctq (fc3 (N (15 + 11 * i)) ((i : Nat) : Int) (N 1))) 0 30)) 69 i ((N (18 + 11 * i)) + (hwF 0 0 120))) 69 i = ((N (18 + 11 * i)) + (hwF 0 0 120)) := up2_at
        have n70 : (up2 (up2 (upR (up2 (up2 (up2 (up2 h1 65 i (N (16 + 11 * i))) 66 i (N (17 + 11 * i))) 67 i (N (19 + 11 * i))) 68 i (farF (N (15 + 11 * i)) (N (20 + 11 * i)))) 75 g2) 70 i (hwF (woN N ctq (fc3 (N (15 + 11 * i)) ((i : Nat) : Int) (N 1))) 0 30)) 69 i ((N (18 + 11 * i)) + (hwF 0 0 120))) 70 i = (hwF (woN N ctq (fc3 (N (15 + 11 * i)) ((i : Nat) : Int) (N 1))) 0 30) := ((up2_ne (by omega)).trans up2_at)
        have hwt : (hwF (woN N ctq (fc3 (N (15 + 11 * i)) ((i : Nat) : Int) (N 1))) 0 30) = wtN N i := by
          unfold wtN; rw [if_neg (by omega), hctq]; rfl
        have hgo : ((N (18 + 11 * i)) + (hwF 0 0 120)) = goN N i := by
          unfold goN
          have e : tdN N i = hwF (woN N ctu (fc3 i (N 1) 0)) 0 120 := by unfold tdN; rw [if_neg (by omega), hctu]; rfl
          first | (rw [if_pos (by omega), e]; done) | (rw [if_neg (by omega)]; rfl)
        refine b_callV (d' := d - 1) (mc' := 0) (ms' := 0) (mc1 := 0) (ms1 := 0) (st := []) (b := 63) [vI ((i : Nat) : Int), vA (w + 7 + 2 * i)] dX5_readTrains_189 mwX5_readSteps lkX5_130 (by decide) rfl rc_X5 rfl (Nat.le_of_ble_eq_true rfl) (by omega) rfl rfl (c_X5_readSteps (N := N) (by omega) (tr_w hw (show i < 12 by omega)) (by omega) (by omega) (trW_fr ra rb (hR.2.2.1 i (by omega))) hr (n69.trans hgo) (fun u hu => ⟨(o69 u hu).trans (iv u hu).2.2.2.2.1, goN_rng (hv.2.2.1 u (by omega))⟩) (fun u hu s hs => (o72 _).trans (iw u hu s hs).2) (fun h9 hG9 j1 j2 => ?_))
        show Aj γ mX5_readTrains d 0 0 Post 192 [(7, vI 0), (6, vI (woN N ctq (fc3 (N (15 + 11 * i)) ((i : Nat) : Int) (N 1)))), (5, vA (w + 7 + 2 * i)), (4, vI ((i : Nat) : Int)), (3, vA (154 + u)), (2, vA (154 + q)), (0, vA 63), (1, vA w)] [] (mk h9 τ)
        refine a_iinc (j := 3) (z' := ((i + 1 : Nat) : Int)) (lv' := [(4, vI ((i + 1 : Nat) : Int)), (7, vI 0), (6, vI (woN N ctq (fc3 (N (15 + 11 * i)) ((i : Nat) : Int) (N 1)))), (5, vA (w + 7 + 2 * i)), (3, vA (154 + u)), (2, vA (154 + q)), (0, vA 63), (1, vA w)]) dX5_readTrains_192 rfl (w_okN (by omega) (by omega) (by omega)) (by decide) rfl ?_
        refine a_goto (tgt := 15) dX5_readTrains_195 (by decide) ?_
        refine a_lv (lv' := [(4, vI (((i + 1) : Nat) : Int)), (3, vA (154 + u)), (2, vA (154 + q)), (0, vA 63), (1, vA w)]) (by intro q hq; simp only [List.mem_cons, List.not_mem_nil, or_false] at hq ⊢; rcases hq with rfl | rfl | rfl | rfl | rfl <;> simp) (ih (i + 1) h9  (by omega) (by omega) (Fr_t (Fr_u (by decide) (Fr_u (by decide) (Fr_R (by decide) (Fr_u (by decide) (Fr_u (by decide) (Fr_u (by decide) (Fr_u (by decide) (Fr_m (by decide) hF)))))))) (Fr_m (by decide) hG9)) (fun u hu => by
          rw [Fr_v hG9 (by decide), Fr_v hG9 (by decide), Fr_v hG9 (by decide), Fr_v hG9 (by decide), Fr_v hG9 (by decide), Fr_v hG9 (by decide)]
          by_cases c : u = i
          · subst c; exact ⟨n65, n66, n67, n68, n69.trans hgo, n70.trans hwt⟩
          · rw [o65 u (by omega), o66 u (by omega), o67 u (by omega), o68 u (by omega), o69 u (by omega), o70 u (by omega)]; exact iv u (by omega)) (fun u hu s hs => by
          by_cases c : u = i
          · subst c; exact j1 s hs
          · rw [(j2 _ (by omega)).1, (j2 _ (by omega)).2, o71, o72]; exact iw u (by omega) s hs))
theorem c_X5_readTrains {γ : GT} {d : Nat} {w : Nat} {N : Nat → Int} {h : Nat → Nat → Int} {τ : List AC} {Post : Option AV → List AC → Prop} (hd : 3 ≤ d) (hw : isWd w) (hR : WR h τ w N) (hv : NV N) (hn3 : h 63 3 = N 5) (kQ : ∀ h', Fr [65, 66, 67, 68, 69, 70, 71, 72, 75] h h' → (∀ u : Nat, (u : Int) < N 5 → h' 65 u = N (16 + 11 * u) ∧ h' 66 u = N (17 + 11 * u) ∧ h' 67 u = N (19 + 11 * u) ∧ h' 68 u = farF (N (15 + 11 * u)) (N (20 + 11 * u)) ∧ h' 69 u = goN N u ∧ h' 70 u = wtN N u) → (∀ u : Nat, (u : Int) < N 5 → ∀ s : Nat, s < 4 → h' 71 (4 * u + s) = N (22 + 11 * u + s) ∧ h' 72 (4 * u + s) = goN N u + dlN N u s) → Post none (mk h' τ)) : Cj γ mX5_readTrains d 0 0 [vA 63, vA w] (mk h τ) Post := by
  have hw_ : w = 1 ∨ w = 32 := hw
  have hs5 := hv.1.2.2.2.2
  obtain ⟨n5, hn5⟩ : ∃ n5 : Nat, N 5 = (n5 : Int) := ⟨Int.toNat (N 5), by omega⟩
  refine c_of (by decide) (Nat.le_of_ble_eq_true rfl) ?_
  show Aj γ mX5_readTrains d 0 0 Post 0 [(0, vA 63), (1, vA w)] [] (mk h τ)
  refine a_aload_n (j := 1) dX5_readTrains_0 rfl rfl (Nat.le_of_ble_eq_true rfl) ?_
  refine a_iconst dX5_readTrains_1 ⟨by decide, by decide⟩ ?_
  refine b_callV (d' := d - 1) (mc' := 0) (ms' := 0) (mc1 := 0) (ms1 := 0) (st := []) (b := w) [vI 0] dX5_readTrains_2 mwX7_law lkX5_84 (by rcases hw with rfl | rfl <;> decide) (by rcases hw with rfl | rfl <;> rfl) rc_X7 rfl (Nat.le_of_ble_eq_true rfl) (by omega) rfl rfl (c_X7_law (N := N) (by omega) hw hR.1.2.2.1 hv.2.2.2 hR.2.2.2.1 (fun cq => ?_) (fun ctq q hctq hxq => ?_))
  · show Aj γ mX5_readTrains d 0 0 Post 5 [(0, vA 63), (1, vA w)] [vN] (mk h τ)
    refine a_astore_n (lv' := [(2, vN), (0, vA 63), (1, vA w)]) dX5_readTrains_5 rfl (by decide) (Nat.le_of_ble_eq_true rfl) rfl ?_
    refine a_aload_n (j := 2) dX5_readTrains_6 rfl rfl (Nat.le_of_ble_eq_true rfl) ?_
    refine a_iconst dX5_readTrains_7 ⟨by decide, by decide⟩ ?_
    refine b_callV (d' := d - 1) (mc' := 0) (ms' := 0) (mc1 := 0) (ms1 := 0) (st := []) (b := w) [vI 1] dX5_readTrains_8 mwX7_law lkX5_84 (by rcases hw with rfl | rfl <;> decide) (by rcases hw with rfl | rfl <;> rfl) rc_X7 rfl (Nat.le_of_ble_eq_true rfl) (by omega) rfl rfl (c_X7_law (N := N) (by omega) hw hR.1.2.2.1 hv.2.2.2 hR.2.2.2.1 (fun cu => ?_) (fun ctu u hctu hxu => ?_))
    · show Aj γ mX5_readTrains d 0 0 Post 11 [(2, vN), (0, vA 63), (1, vA w)] [vN] (mk h τ)
      refine a_astore_n (lv' := [(3, vN), (2, vN), (0, vA 63), (1, vA w)]) dX5_readTrains_11 rfl (by decide) (Nat.le_of_ble_eq_true rfl) rfl ?_
      refine a_iconst dX5_readTrains_12 ⟨by decide, by decide⟩ ?_
      refine a_istore (lv' := [(4, vI 0), (3, vN), (2, vN), (0, vA 63), (1, vA w)]) dX5_readTrains_13 (by decide) rfl ?_
      refine a_lv (lv' := [(4, vI ((0 : Nat) : Int)), (3, vN), (2, vN), (0, vA 63), (1, vA w)]) (by intro q hq; simp only [List.mem_cons, List.not_mem_nil, or_false] at hq ⊢; rcases hq with rfl | rfl | rfl | rfl | rfl <;> simp) (l_rtNN (n := n5) (q := 0) (ctq := 0) (u := 0) (ctu := 0) hd hw hR hv (hn3.trans hn5) hn5 (by omega) cq cu (fun h' hF hi hj => kQ h' hF (fun u hu => hi u (by omega)) (fun u hu => hj u (by omega))) (n5 + 1) 0 h (by omega) (by omega) Fr_r (fun s hs => by omega) (fun s hs => by omega))
    · show Aj γ mX5_readTrains d 0 0 Post 11 [(2, vN), (0, vA 63), (1, vA w)] [vA (154 + u)] (mk h τ)
      refine a_astore_n (lv' := [(3, vA (154 + u)), (2, vN), (0, vA 63), (1, vA w)]) dX5_readTrains_11 rfl (by decide) (Nat.le_of_ble_eq_true rfl) rfl ?_
      refine a_iconst dX5_readTrains_12 ⟨by decide, by decide⟩ ?_
      refine a_istore (lv' := [(4, vI 0), (3, vA (154 + u)), (2, vN), (0, vA 63), (1, vA w)]) dX5_readTrains_13 (by decide) rfl ?_
      refine a_lv (lv' := [(4, vI ((0 : Nat) : Int)), (3, vA (154 + u)), (2, vN), (0, vA 63), (1, vA w)]) (by intro q hq; simp only [List.mem_cons, List.not_mem_nil, or_false] at hq ⊢; rcases hq with rfl | rfl | rfl | rfl | rfl <;> simp) (l_rtNS (n := n5) (q := 0) (ctq := 0) hd hw hR hv (hn3.trans hn5) hn5 (by omega) cq hctu hxu (fun h' hF hi hj => kQ h' hF (fun u hu => hi u (by omega)) (fun u hu => hj u (by omega))) (n5 + 1) 0 h (by omega) (by omega) Fr_r (fun s hs => by omega) (fun s hs => by omega))
  · show Aj γ mX5_readTrains d 0 0 Post 5 [(0, vA 63), (1, vA w)] [vA (154 + q)] (mk h τ)
    refine a_astore_n (lv' := [(2, vA (154 + q)), (0, vA 63), (1, vA w)]) dX5_readTrains_5 rfl (by decide) (Nat.le_of_ble_eq_true rfl) rfl ?_
    refine a_aload_n (j := 2) dX5_readTrains_6 rfl rfl (Nat.le_of_ble_eq_true rfl) ?_
    refine a_iconst dX5_readTrains_7 ⟨by decide, by decide⟩ ?_
    refine b_callV (d' := d - 1) (mc' := 0) (ms' := 0) (mc1 := 0) (ms1 := 0) (st := []) (b := w) [vI 1] dX5_readTrains_8 mwX7_law lkX5_84 (by rcases hw with rfl | rfl <;> decide) (by rcases hw with rfl | rfl <;> rfl) rc_X7 rfl (Nat.le_of_ble_eq_true rfl) (by omega) rfl rfl (c_X7_law (N := N) (by omega) hw hR.1.2.2.1 hv.2.2.2 hR.2.2.2.1 (fun cu => ?_) (fun ctu u hctu hxu => ?_))
    · show Aj γ mX5_readTrains d 0 0 Post 11 [(2, vA (154 + q)), (0, vA 63), (1, vA w)] [vN] (mk h τ)
      refine a_astore_n (lv' := [(3, vN), (2, vA (154 + q)), (0, vA 63), (1, vA w)]) dX5_readTrains_11 rfl (by decide) (Nat.le_of_ble_eq_true rfl) rfl ?_
      refine a_iconst dX5_readTrains_12 ⟨by decide, by decide⟩ ?_
      refine a_istore (lv' := [(4, vI 0), (3, vN), (2, vA (154 + q)), (0, vA 63), (1, vA w)]) dX5_readTrains_13 (by decide) rfl ?_
      refine a_lv (lv' := [(4, vI ((0 : Nat) : Int)), (3, vN), (2, vA (154 + q)), (0, vA 63), (1, vA w)]) (by intro q hq; simp only [List.mem_cons, List.not_mem_nil, or_false] at hq ⊢; rcases hq with rfl | rfl | rfl | rfl | rfl <;> simp) (l_rtSN (n := n5) (u := 0) (ctu := 0) hd hw hR hv (hn3.trans hn5) hn5 (by omega) hctq hxq cu (fun h' hF hi hj => kQ h' hF (fun u hu => hi u (by omega)) (fun u hu => hj u (by omega))) (n5 + 1) 0 h (by omega) (by omega) Fr_r (fun s hs => by omega) (fun s hs => by omega))
    · show Aj γ mX5_readTrains d 0 0 Post 11 [(2, vA (154 + q)), (0, vA 63), (1, vA w)] [vA (154 + u)] (mk h τ)
      refine a_astore_n (lv' := [(3, vA (154 + u)), (2, vA (154 + q)), (0, vA 63), (1, vA w)]) dX5_readTrains_11 rfl (by decide) (Nat.le_of_ble_eq_true rfl) rfl ?_
      refine a_iconst dX5_readTrains_12 ⟨by decide, by decide⟩ ?_
      refine a_istore (lv' := [(4, vI 0), (3, vA (154 + u)), (2, vA (154 + q)), (0, vA 63), (1, vA w)]) dX5_readTrains_13 (by decide) rfl ?_
      refine a_lv (lv' := [(4, vI ((0 : Nat) : Int)), (3, vA (154 + u)), (2, vA (154 + q)), (0, vA 63), (1, vA w)]) (by intro q hq; simp only [List.mem_cons, List.not_mem_nil, or_false] at hq ⊢; rcases hq with rfl | rfl | rfl | rfl | rfl <;> simp) (l_rtSS (n := n5) hd hw hR hv (hn3.trans hn5) hn5 (by omega) hctq hxq hctu hxu (fun h' hF hi hj => kQ h' hF (fun u hu => hi u (by omega)) (fun u hu => hj u (by omega))) (n5 + 1) 0 h (by omega) (by omega) Fr_r (fun s hs => by omega) (fun s hs => by omega))
