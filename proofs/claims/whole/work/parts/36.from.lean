/-- rows 133 .. 136 are as they were but at minute k -/
def OKm (h h' : Nat → Nat → Int) (k : Nat) : Prop := ∀ q, (∀ s : Nat, s < 6 → q ≠ 1600 * s + k) → h' 133 q = h 133 q ∧ h' 134 q = h 134 q ∧ h' 135 q = h 135 q ∧ h' 136 q = h 136 q
theorem OKm_r {h : Nat → Nat → Int} {k : Nat} : OKm h h k := fun q _ => ⟨rfl, rfl, rfl, rfl⟩
theorem OKm_t {h h' h'' : Nat → Nat → Int} {k : Nat} (a : OKm h h' k) (b : OKm h' h'' k) : OKm h h'' k := fun q hq => by
  have x := a q hq
  have y := b q hq
  exact ⟨y.1.trans x.1, y.2.1.trans x.2.1, y.2.2.1.trans x.2.2.1, y.2.2.2.trans x.2.2.2⟩
theorem OKm_o {h h' : Nat → Nat → Int} {s k : Nat} (hs : s < 6) (a : O4 h h' (1600 * s + k)) : OKm h h' k := fun q hq => a q (hq s hs)
theorem CBt_o {h h' T : Nat → Nat → Int} {s s' k n : Nat} (hs : s ≠ s') (hs6 : s < 6 ∧ s' < 6 ∧ k < 1600) (a : O4 h h' (1600 * s + k)) (hB : CBt h T s' k n) : CBt h' T s' k n := by
  have x := a (1600 * s' + k) (by omega)
  unfold CBt
  rw [x.1, x.2.1, x.2.2.1, x.2.2.2]
  exact hB
theorem CBt_skip {h T : Nat → Nat → Int} {s m n : Nat} (hk : ¬ (T 2 n = (s : Int) ∧ (m : Int) ≤ lsT T n)) (hB : CBt h T s m n) : CBt h T s m (n + 1) := by
  unfold CBt
  rw [bsT_skip hk, bsT_skip hk, bsT_skip hk]
  exact hB
theorem CWf_s {h h' T : Nat → Nat → Int} {k n : Nat} (hT : tOK T) (hn : T 0 2 = (n : Int)) (hk : k < 1600) (hC : CWf h T ((k : Int) + 1)) (ho : OKm h h' k) (hB : ∀ s : Nat, (s : Int) < T 0 3 → ¬ (s : Int) = T 0 0 → CBt h' T s k n) : CWf h' T (k : Int) := by
  have h3 := hT.2.2.2.1
  intro s m hs hg hm hm6
  by_cases c : m = k
  · subst c
    have b := hB s hs hg
    rw [WT_eq hT (by omega), WT_eq hT (by omega), WT_eq hT (by omega), if_neg hg, if_neg hg, if_neg hg, show Int.toNat (T 0 2) = n by omega]
    unfold TK
    rw [if_neg hg, show Int.toNat (T 0 2) = n by omega]
    exact ⟨b.2.1, b.1, b.2.2.1, b.2.2.2⟩
  · have x := ho (1600 * s + m) (fun s' hs' => by omega)
    rw [x.1, x.2.1, x.2.2.1, x.2.2.2]
    exact hC s m hs hg (by omega) hm6
set_option maxHeartbeats 8000000 in
theorem l_lfI {γ : GT} {d : Nat} {T : Nat → Nat → Int} {n4 k : Nat} {mi : Int} {h : Nat → Nat → Int} {τ : List AC} {Post : Option AV → List AC → Prop} (hd : 3 ≤ d) (hT : tOK T) (hRT : RT h T) (hn4 : T 0 3 = ((n4 : Nat) : Int)) (hk : k < 1600) (hk9 : h 123 9 = ((k : Nat) : Int)) (kE : ∀ h' x, Fr [133, 134, 135, 136] h h' → (∀ s : Nat, s < n4 → CBt h' T s k 0) → OKm h h' k → Aj γ mX9_learnsFrom d 0 0 Post 81 [(2, vI x), (0, vA 123), (1, vI mi)] [] (mk h' τ)) :
    ∀ (f i : Nat) (h1 : Nat → Nat → Int), i ≤ n4 → n4 < i + f → Fr [133, 134, 135, 136] h h1 → (∀ s : Nat, s < i → CBt h1 T s k 0) → (OKm h h1 k) → Aj γ mX9_learnsFrom d 0 0 Post 24 [(2, vI ((i : Nat) : Int)), (0, vA 123), (1, vI mi)] [] (mk h1 τ) := by
  intro f
  induction f with
  | zero => intro i h1  h1_ h2_; omega
  | succ f ih =>
    intro i h1  h1_ h2_ hF iv io
    have h3_ := hT.2.2.2.1
    refine a_iload_n (j := 0) dX9_learnsFrom_24 rfl rfl ?_
    refine a_aload_n (j := 1) dX9_learnsFrom_25 rfl rfl (Nat.le_of_ble_eq_true rfl) ?_
    refine b_getp (a := 123) (p := 124) dX9_learnsFrom_26 fwX9_9 (by decide) rfl (by decide) rfl rfl ?_
    refine a_iconst dX9_learnsFrom_29 ⟨by decide, by decide⟩ ?_
    refine b_iaload (a := 124) (z := ((n4 : Nat) : Int)) 4 dX9_learnsFrom_30 (by decide) rfl rfl (by decide) rfl ((Fr_v hF (by decide)).trans (hRT.1.1.2.2.2.trans hn4)) (fun r30_1 => ?_)
    refine a_icmp_ge (tgt := 81) dX9_learnsFrom_31 (by decide) (fun c31_2 => ?_) (fun c31_2 => ?_)
    · exact kE _ _ hF (fun s hs => iv s (by omega)) io
    · refine a_sipush dX9_learnsFrom_34 ⟨by decide, by decide, by decide⟩ ?_
      refine a_iload_n (j := 0) dX9_learnsFrom_37 rfl rfl ?_
      refine a_imul (z := (1600 * ((i : Nat) : Int))) dX9_learnsFrom_38 (w_ok (by omega) (by omega)) ?_
      refine a_aload_n (j := 1) dX9_learnsFrom_39 rfl rfl (Nat.le_of_ble_eq_true rfl) ?_
      refine b_get (a := 123) (z := ((k : Nat) : Int)) (t := 0) dX9_learnsFrom_40 fwX9_127 (by decide) rfl (by decide) rfl rfl ((Fr_v hF (by decide)).trans hk9) ?_
      refine a_iadd (z := ((1600 * ((i : Nat) : Int)) + ((k : Nat) : Int))) dX9_learnsFrom_43 (w_ok (by omega) (by omega)) ?_
      refine a_istore_n (lv' := [(3, vI ((1600 * ((i : Nat) : Int)) + ((k : Nat) : Int))), (2, vI ((i : Nat) : Int)), (0, vA 123), (1, vI mi)]) dX9_learnsFrom_44 rfl (by decide) rfl ?_
      refine a_aload_n (j := 2) dX9_learnsFrom_45 rfl rfl (Nat.le_of_ble_eq_true rfl) ?_
      refine b_getp (a := 123) (p := 134) dX9_learnsFrom_46 fwX9_41 (by decide) rfl (by decide) rfl rfl ?_
      refine a_iload_n (j := 0) dX9_learnsFrom_49 rfl rfl ?_
      refine a_iconst dX9_learnsFrom_50 ⟨by decide, by decide⟩ ?_
      refine b_iastore (a := 134) (1600 * i + k) dX9_learnsFrom_51 (by decide) rfl (by omega) (by omega) (sp_nil rfl _) ?_
      refine a_aload_n (j := 2) dX9_learnsFrom_52 rfl rfl (Nat.le_of_ble_eq_true rfl) ?_
      refine b_getp (a := 123) (p := 133) dX9_learnsFrom_53 fwX9_38 (by decide) rfl (by decide) rfl rfl ?_
      refine a_iload_n (j := 0) dX9_learnsFrom_56 rfl rfl ?_
      refine a_ldc (z := 288000) dX9_learnsFrom_57 kwX9_201 ⟨by decide, by decide, by decide⟩ ?_
      refine b_iastore (a := 133) (1600 * i + k) dX9_learnsFrom_59 (by decide) rfl (by omega) (by omega) (sp_nil rfl _) ?_
      refine a_aload_n (j := 2) dX9_learnsFrom_60 rfl rfl (Nat.le_of_ble_eq_true rfl) ?_
      refine b_getp (a := 123) (p := 135) dX9_learnsFrom_61 fwX9_44 (by decide) rfl (by decide) rfl rfl ?_
      refine a_iload_n (j := 0) dX9_learnsFrom_64 rfl rfl ?_
      refine a_iconst dX9_learnsFrom_65 ⟨by decide, by decide⟩ ?_
      refine b_iastore (a := 135) (1600 * i + k) dX9_learnsFrom_66 (by decide) rfl (by omega) (by omega) (sp_nil rfl _) ?_
      refine a_aload_n (j := 2) dX9_learnsFrom_67 rfl rfl (Nat.le_of_ble_eq_true rfl) ?_
      refine b_getp (a := 123) (p := 136) dX9_learnsFrom_68 fwX9_47 (by decide) rfl (by decide) rfl rfl ?_
      refine a_iload_n (j := 0) dX9_learnsFrom_71 rfl rfl ?_
      refine a_ldc (z := 1000000000) dX9_learnsFrom_72 kwX9_202 ⟨by decide, by decide, by decide⟩ ?_
      refine b_iastore (a := 136) (1600 * i + k) dX9_learnsFrom_74 (by decide) rfl (by omega) (by omega) (sp_nil rfl _) ?_
      refine a_iinc (j := 1) (z' := ((i + 1 : Nat) : Int)) (lv' := [(2, vI ((i + 1 : Nat) : Int)), (3, vI ((1600 * ((i : Nat) : Int)) + ((k : Nat) : Int))), (0, vA 123), (1, vI mi)]) dX9_learnsFrom_75 rfl (w_okN (by omega) (by omega) (by omega)) (by decide) rfl ?_
      refine a_goto (tgt := 24) dX9_learnsFrom_78 (by decide) ?_
      refine a_lv (lv' := [(2, vI (((i + 1) : Nat) : Int)), (0, vA 123), (1, vI mi)]) (by intro q hq; simp only [List.mem_cons, List.not_mem_nil, or_false] at hq ⊢; rcases hq with rfl | rfl | rfl <;> simp) (ih (i + 1) (up2 (up2 (up2 (up2 h1 134 (1600 * i + k) (-1)) 133 (1600 * i + k) 288000) 135 (1600 * i + k) 0) 136 (1600 * i + k) 1000000000)  (by omega) (by omega) (Fr_u (by decide) (Fr_u (by decide) (Fr_u (by decide) (Fr_u (by decide) (Fr_m (by decide) hF))))) (fun s hs => by
          by_cases c : s = i
          · subst c; exact ⟨((up2_ne (by omega)).trans ((up2_ne (by omega)).trans ((up2_ne (by omega)).trans up2_at))), ((up2_ne (by omega)).trans ((up2_ne (by omega)).trans up2_at)), ((up2_ne (by omega)).trans up2_at), up2_at⟩
          · have b := iv s (by omega)
            have z : O4 h1 (up2 (up2 (up2 (up2 h1 134 (1600 * i + k) (-1)) 133 (1600 * i + k) 288000) 135 (1600 * i + k) 0) 136 (1600 * i + k) 1000000000) (1600 * i + k) := fun q hq => ⟨by rw [up2_ne (by omega), up2_ne (by omega), up2_ne (by omega), up2_ne (by omega)], by rw [up2_ne (by omega), up2_ne (by omega), up2_ne (by omega), up2_ne (by omega)], by rw [up2_ne (by omega), up2_ne (by omega), up2_ne (by omega), up2_ne (by omega)], by rw [up2_ne (by omega), up2_ne (by omega), up2_ne (by omega), up2_ne (by omega)]⟩
            exact CBt_o (s := i) (s' := s) (by omega) ⟨by omega, by omega, by omega⟩ z b) (OKm_t io (OKm_o (s := i) (by omega) (fun q hq => ⟨by rw [up2_ne (by omega), up2_ne (by omega), up2_ne (by omega), up2_ne (by omega)], by rw [up2_ne (by omega), up2_ne (by omega), up2_ne (by omega), up2_ne (by omega)], by rw [up2_ne (by omega), up2_ne (by omega), up2_ne (by omega), up2_ne (by omega)], by rw [up2_ne (by omega), up2_ne (by omega), up2_ne (by omega), up2_ne (by omega)]⟩))))
theorem CWf_o {h h' T : Nat → Nat → Int} {k : Nat} (hC : CWf h T ((k : Int) + 1)) (ho : OKm h h' k) (hk : k < 1600 := by omega) : CWf h' T ((k : Int) + 1) := by
  intro s m hs hg hm hm6
  have x := ho (1600 * s + m) (fun s' hs' => by omega)
  rw [x.1, x.2.1, x.2.2.1, x.2.2.2]
  exact hC s m hs hg hm hm6
set_option maxHeartbeats 8000000 in
theorem l_lfT {γ : GT} {d : Nat} {T : Nat → Nat → Int} {n5 k : Nat} {mi : Int} {h : Nat → Nat → Int} {τ : List AC} {Post : Option AV → List AC → Prop} (hd : 3 ≤ d) (hT : tOK T) (hRT : RT h T) (hn5 : T 0 2 = ((n5 : Nat) : Int)) (hk : k < 1600) (hk9 : h 123 9 = ((k : Nat) : Int)) (hC : CWf h T ((k : Int) + 1)) (kE : ∀ h' x, Fr [133, 134, 135, 136] h h' → (∀ s : Nat, (s : Int) < T 0 3 → ¬ (s : Int) = T 0 0 → CBt h' T s k n5) → OKm h h' k → Aj γ mX9_learnsFrom d 0 0 Post 149 [(2, vI x), (0, vA 123), (1, vI mi)] [] (mk h' τ)) :
    ∀ (f i : Nat) (h1 : Nat → Nat → Int), i ≤ n5 → n5 < i + f → Fr [133, 134, 135, 136] h h1 → (∀ s : Nat, (s : Int) < T 0 3 → ¬ (s : Int) = T 0 0 → CBt h1 T s k i) → (OKm h h1 k) → Aj γ mX9_learnsFrom d 0 0 Post 83 [(2, vI ((i : Nat) : Int)), (0, vA 123), (1, vI mi)] [] (mk h1 τ) := by
  intro f
  induction f with
  | zero => intro i h1  h1_ h2_; omega
  | succ f ih =>
    intro i h1  h1_ h2_ hF iv io
    have h2_ := hT.2.2.1
    have h3_ := hT.2.2.2.1
    have qa := hT.2.2.2.2.2 i
    have qa2 := qa.1
    have qa6 := qa.2.2.2.2.1
    have qa7 := qa.2.2.2.2.2.1
    refine a_iload_n (j := 0) dX9_learnsFrom_83 rfl rfl ?_
    refine a_aload_n (j := 1) dX9_learnsFrom_84 rfl rfl (Nat.le_of_ble_eq_true rfl) ?_
    refine b_getp (a := 123) (p := 124) dX9_learnsFrom_85 fwX9_9 (by decide) rfl (by decide) rfl rfl ?_
    refine a_iconst dX9_learnsFrom_88 ⟨by decide, by decide⟩ ?_
    refine b_iaload (a := 124) (z := ((n5 : Nat) : Int)) 5 dX9_learnsFrom_89 (by decide) rfl rfl (by decide) rfl ((Fr_v hF (by decide)).trans (hRT.1.1.2.2.1.trans hn5)) (fun r89_1 => ?_)
    refine a_icmp_ge (tgt := 149) dX9_learnsFrom_90 (by decide) (fun c90_2 => ?_) (fun c90_2 => ?_)
    · obtain rfl : i = n5 := (by omega)
      exact kE _ _ hF iv io
    · have qa9 := qa.2.2.2.2.2.2.2 (by omega)
      refine a_aload_n (j := 1) dX9_learnsFrom_93 rfl rfl (Nat.le_of_ble_eq_true rfl) ?_
      refine a_iload_n (j := 0) dX9_learnsFrom_94 rfl rfl ?_
      refine a_iconst dX9_learnsFrom_95 ⟨by decide, by decide⟩ ?_
      refine b_callV (d' := d - 1) (mc' := 0) (ms' := 0) (mc1 := 0) (ms1 := 0) (st := []) (b := 123) [vI ((i : Nat) : Int), vI 1] dX9_learnsFrom_96 mwX9_of lkX9_107 (by decide) rfl rc_X9 rfl (Nat.le_of_ble_eq_true rfl) (by omega) rfl rfl (c_X9_of (v1 := (T 2 i)) (by omega)  ((Fr_v hF (by decide)).trans ((congrArg (h 124) (show (Int.toNat ((15 + (11 * ((i : Nat) : Int))) + 1)) = (16 + 11 * i) by omega)).trans (hRT.1.2 i (by omega)).1)) (show 0 ≤ ((i : Nat) : Int) ∧ ((i : Nat) : Int) ≤ 11 ∧ 0 ≤ 1 ∧ 1 ≤ 10 by omega) ?_)
      show Aj γ mX9_learnsFrom d 0 0 Post 99 [(2, vI ((i : Nat) : Int)), (0, vA 123), (1, vI mi)] [vI (T 2 i)] (mk h1 τ)
      refine a_aload_n (j := 1) dX9_learnsFrom_99 rfl rfl (Nat.le_of_ble_eq_true rfl) ?_
      refine b_getp (a := 123) (p := 124) dX9_learnsFrom_100 fwX9_9 (by decide) rfl (by decide) rfl rfl ?_
      refine a_iconst dX9_learnsFrom_103 ⟨by decide, by decide⟩ ?_
      refine b_iaload (a := 124) (z := T 0 0) 2 dX9_learnsFrom_104 (by decide) rfl rfl (by decide) rfl ((Fr_v hF (by decide)).trans hRT.1.1.1) (fun r104_3 => ?_)
      refine a_icmp_eq (tgt := 143) dX9_learnsFrom_105 (by decide) (fun c105_4 => ?_) (fun c105_4 => ?_)
      · refine a_iinc (j := 0) (z' := ((i + 1 : Nat) : Int)) (lv' := [(2, vI ((i + 1 : Nat) : Int)), (0, vA 123), (1, vI mi)]) dX9_learnsFrom_143 rfl (w_okN (by omega) (by omega) (by omega)) (by decide) rfl ?_
        refine a_goto (tgt := 83) dX9_learnsFrom_146 (by decide) ?_
        refine a_lv (lv' := [(2, vI (((i + 1) : Nat) : Int)), (0, vA 123), (1, vI mi)]) (by intro q hq; simp only [List.mem_cons, List.not_mem_nil, or_false] at hq ⊢; rcases hq with rfl | rfl | rfl <;> simp) (ih (i + 1) h1  (by omega) (by omega) (Fr_m (by decide) hF) (fun s hs hg => CBt_skip (fun e => by have hlq : lsT T i = T 6 i + T 7 i := rfl; omega) (iv s hs hg)) io)
      · refine a_aload_n (j := 1) dX9_learnsFrom_108 rfl rfl (Nat.le_of_ble_eq_true rfl) ?_
        refine b_getp (a := 123) (p := 128) dX9_learnsFrom_109 fwX9_22 (by decide) rfl (by decide) rfl rfl ?_
        refine a_iload_n (j := 0) dX9_learnsFrom_112 rfl rfl ?_
        refine b_iaload (a := 128) (z := T 6 i) i dX9_learnsFrom_113 (by decide) rfl rfl (by omega) (sp_nil rfl _) ((Fr_v hF (by decide)).trans (hRT.2.2 i (by omega)).1) (fun r113_5 => ?_)
        refine a_aload_n (j := 1) dX9_learnsFrom_114 rfl rfl (Nat.le_of_ble_eq_true rfl) ?_
        refine b_getp (a := 123) (p := 129) dX9_learnsFrom_115 fwX9_25 (by decide) rfl (by decide) rfl rfl ?_
        refine a_iload_n (j := 0) dX9_learnsFrom_118 rfl rfl ?_
        refine b_iaload (a := 129) (z := T 7 i) i dX9_learnsFrom_119 (by decide) rfl rfl (by omega) (sp_nil rfl _) ((Fr_v hF (by decide)).trans (hRT.2.2 i (by omega)).2.1) (fun r119_6 => ?_)
        refine a_iadd (z := ((T 6 i) + (T 7 i))) dX9_learnsFrom_120 (w_ok (by omega) (by omega)) ?_
        refine a_aload_n (j := 1) dX9_learnsFrom_121 rfl rfl (Nat.le_of_ble_eq_true rfl) ?_
        refine b_get (a := 123) (z := ((k : Nat) : Int)) (t := 0) dX9_learnsFrom_122 fwX9_127 (by decide) rfl (by decide) rfl rfl ((Fr_v hF (by decide)).trans hk9) ?_
        refine a_icmp_lt (tgt := 143) dX9_learnsFrom_125 (by decide) (fun c125_7 => ?_) (fun c125_7 => ?_)
        · refine a_iinc (j := 0) (z' := ((i + 1 : Nat) : Int)) (lv' := [(2, vI ((i + 1 : Nat) : Int)), (0, vA 123), (1, vI mi)]) dX9_learnsFrom_143 rfl (w_okN (by omega) (by omega) (by omega)) (by decide) rfl ?_
          refine a_goto (tgt := 83) dX9_learnsFrom_146 (by decide) ?_
          refine a_lv (lv' := [(2, vI (((i + 1) : Nat) : Int)), (0, vA 123), (1, vI mi)]) (by intro q hq; simp only [List.mem_cons, List.not_mem_nil, or_false] at hq ⊢; rcases hq with rfl | rfl | rfl <;> simp) (ih (i + 1) h1  (by omega) (by omega) (Fr_m (by decide) hF) (fun s hs hg => CBt_skip (fun e => by have hlq : lsT T i = T 6 i + T 7 i := rfl; omega) (iv s hs hg)) io)
        · refine a_aload_n (j := 1) dX9_learnsFrom_128 rfl rfl (Nat.le_of_ble_eq_true rfl) ?_
          refine a_iload_n (j := 0) dX9_learnsFrom_129 rfl rfl ?_
          refine a_aload_n (j := 1) dX9_learnsFrom_130 rfl rfl (Nat.le_of_ble_eq_true rfl) ?_
          refine a_iload_n (j := 0) dX9_learnsFrom_131 rfl rfl ?_
          refine a_iconst dX9_learnsFrom_132 ⟨by decide, by decide⟩ ?_
          refine b_callV (d' := d - 1) (mc' := 0) (ms' := 0) (mc1 := 0) (ms1 := 0) (st := [vI ((i : Nat) : Int), vA 123]) (b := 123) [vI ((i : Nat) : Int), vI 1] dX9_learnsFrom_133 mwX9_of lkX9_107 (by decide) rfl rc_X9 rfl (Nat.le_of_ble_eq_true rfl) (by omega) rfl rfl (c_X9_of (v1 := (T 2 i)) (by omega)  ((Fr_v hF (by decide)).trans ((congrArg (h 124) (show (Int.toNat ((15 + (11 * ((i : Nat) : Int))) + 1)) = (16 + 11 * i) by omega)).trans (hRT.1.2 i (by omega)).1)) (show 0 ≤ ((i : Nat) : Int) ∧ ((i : Nat) : Int) ≤ 11 ∧ 0 ≤ 1 ∧ 1 ≤ 10 by omega) ?_)
          show Aj γ mX9_learnsFrom d 0 0 Post 136 [(2, vI ((i : Nat) : Int)), (0, vA 123), (1, vI mi)] [vI (T 2 i), vI ((i : Nat) : Int), vA 123] (mk h1 τ)
          refine a_aload_n (j := 1) dX9_learnsFrom_136 rfl rfl (Nat.le_of_ble_eq_true rfl) ?_
          refine b_get (a := 123) (z := ((k : Nat) : Int)) (t := 0) dX9_learnsFrom_137 fwX9_127 (by decide) rfl (by decide) rfl rfl ((Fr_v hF (by decide)).trans hk9) ?_
          obtain ⟨si, hsi⟩ : ∃ si : Nat, T 2 i = (si : Int) := ⟨Int.toNat (T 2 i), by omega⟩
          rw [hsi]
          refine b_callV (d' := d - 1) (mc' := 0) (ms' := 0) (mc1 := 0) (ms1 := 0) (st := []) (b := 123) [vI ((i : Nat) : Int), vI ((si : Nat) : Int), vI ((k : Nat) : Int)] dX9_learnsFrom_140 mwX9_mayTake lkX9_215 (by decide) rfl rc_X9 rfl (Nat.le_of_ble_eq_true rfl) (by omega) rfl rfl (c_X9_mayTake (T := T) (t := i) (s := si) (m := k) (by omega) hT (RT_fr (by decide) hF hRT) (by omega) hsi (by omega) hk (by show (k : Int) ≤ T 6 i + T 7 i; omega) (CWf_o hC io) (iv si (by omega) (by omega)) (fun h9 hF9 j1 j2 => ?_))
          show Aj γ mX9_learnsFrom d 0 0 Post 143 [(2, vI ((i : Nat) : Int)), (0, vA 123), (1, vI mi)] [] (mk h9 τ)
          refine a_iinc (j := 0) (z' := ((i + 1 : Nat) : Int)) (lv' := [(2, vI ((i + 1 : Nat) : Int)), (0, vA 123), (1, vI mi)]) dX9_learnsFrom_143 rfl (w_okN (by omega) (by omega) (by omega)) (by decide) rfl ?_
          refine a_goto (tgt := 83) dX9_learnsFrom_146 (by decide) ?_
          refine a_lv (lv' := [(2, vI (((i + 1) : Nat) : Int)), (0, vA 123), (1, vI mi)]) (by intro q hq; simp only [List.mem_cons, List.not_mem_nil, or_false] at hq ⊢; rcases hq with rfl | rfl | rfl <;> simp) (ih (i + 1) h9  (by omega) (by omega) (Fr_t (Fr_m (by decide) hF) (Fr_m (by decide) hF9)) (fun s hs hg => by
          by_cases c : s = si
          · subst c; exact j2
          · have hqs : ¬ (T 2 i = (s : Int) ∧ (k : Int) ≤ lsT T i) := fun e => c (by omega)
            exact CBt_skip hqs (CBt_o (s := si) (s' := s) (fun e => c e.symm) ⟨by omega, by omega, hk⟩ j1 (iv s hs hg))) (OKm_t io (OKm_o (s := si) (by omega) j1)))
set_option maxHeartbeats 8000000 in
theorem l_lf {γ : GT} {d : Nat} {T : Nat → Nat → Int} {n4 n5 : Nat} {mi : Int} {h : Nat → Nat → Int} {τ : List AC} {Post : Option AV → List AC → Prop} (hd : 3 ≤ d) (hT : tOK T) (hRT : RT h T) (hn4 : T 0 3 = ((n4 : Nat) : Int)) (hn5 : T 0 2 = ((n5 : Nat) : Int)) (hmi : 0 ≤ mi) (kE : ∀ h' (k : Nat), k ≤ 1600 → Fr [123, 133, 134, 135, 136] h h' → (∀ j, j ≠ 9 → h' 123 j = h 123 j) → h' 123 9 = (k : Int) → (k : Int) ≤ mi → CWf h' T (k : Int) → Post none (mk h' τ)) :
    ∀ (k : Nat), k ≤ 1600 → ∀ h1 : Nat → Nat → Int, Fr [123, 133, 134, 135, 136] h h1 → (∀ j, j ≠ 9 → h1 123 j = h 123 j) → h1 123 9 = ((k : Nat) : Int) → CWf h1 T ((k : Nat) : Int) → Aj γ mX9_learnsFrom d 0 0 Post 4 [(0, vA 123), (1, vI mi)] [] (mk h1 τ) := by
  intro k
  induction k with
  | zero =>
    intro _ h1 hF hq hk9 hC
    refine a_aload_n (j := 0) dX9_learnsFrom_4 rfl rfl (Nat.le_of_ble_eq_true rfl) ?_
    refine b_get (a := 123) (z := ((0 : Nat) : Int)) (t := 0) dX9_learnsFrom_5 fwX9_127 (by decide) rfl (by decide) rfl rfl hk9 ?_
    refine a_iload_n (j := 1) dX9_learnsFrom_8 rfl rfl ?_
    refine a_icmp_le (tgt := 152) dX9_learnsFrom_9 (by decide) (fun c9_1 => ?_) (fun c9_1 => absurd c9_1 (by omega))
    exact a_vret dX9_learnsFrom_152 rfl (kE h1 0 (by omega) hF hq hk9 (by omega) hC)
  | succ k ih =>
    intro hk6 h1 hF hq hk9 hC
    refine a_aload_n (j := 0) dX9_learnsFrom_4 rfl rfl (Nat.le_of_ble_eq_true rfl) ?_
    refine b_get (a := 123) (z := ((k + 1 : Nat) : Int)) (t := 0) dX9_learnsFrom_5 fwX9_127 (by decide) rfl (by decide) rfl rfl hk9 ?_
    refine a_iload_n (j := 1) dX9_learnsFrom_8 rfl rfl ?_
    refine a_icmp_le (tgt := 152) dX9_learnsFrom_9 (by decide) (fun c9_1 => ?_) (fun c9_1 => ?_)
    · exact a_vret dX9_learnsFrom_152 rfl (kE h1 (k + 1) (by omega) hF hq hk9 (by omega) hC)
    · refine a_aload_n (j := 0) dX9_learnsFrom_12 rfl rfl (Nat.le_of_ble_eq_true rfl) ?_
      refine a_dup dX9_learnsFrom_13 (fun h => nomatch h) ?_
      refine b_get (a := 123) (z := ((k + 1 : Nat) : Int)) (t := 0) dX9_learnsFrom_14 fwX9_127 (by decide) rfl (by decide) rfl rfl hk9 ?_
      refine a_iconst dX9_learnsFrom_17 ⟨by decide, by decide⟩ ?_
      refine a_isub (z := (((k + 1 : Nat) : Int) - 1)) dX9_learnsFrom_18 (w_ok (by omega) (by omega)) ?_
      refine b_put (a := 123) (v := vI (((k + 1 : Nat) : Int) - 1)) dX9_learnsFrom_19 pwX9_127 (fun h => nomatch h) (by decide) rfl (by decide) rfl rfl (fit_int _) ?_
      show Aj γ mX9_learnsFrom d 0 0 Post 22 [(0, vA 123), (1, vI mi)] [] (mk (up2 h1 123 9 (((k + 1 : Nat) : Int) - 1)) τ)
      refine a_iconst dX9_learnsFrom_22 ⟨by decide, by decide⟩ ?_
      refine a_istore_n (lv' := [(2, vI 0), (0, vA 123), (1, vI mi)]) dX9_learnsFrom_23 rfl (by decide) rfl ?_
      generalize hHH : (up2 h1 123 9 (((k + 1 : Nat) : Int) - 1)) = H
      have eF : Fr [123] h1 H := by rw [← hHH]; exact Fr_u (by decide) Fr_r
      have e9 : H 123 9 = ((k : Nat) : Int) := by rw [← hHH, up2_at]; omega
      have ej : ∀ j, j ≠ 9 → H 123 j = h1 123 j := fun j hj => by rw [← hHH, up2_ne (by omega)]
      have RT1 : RT H T := RT_fr (by decide) eF (RT_fr (by decide) hF hRT)
      refine a_lv (lv' := [(2, vI ((0 : Nat) : Int)), (0, vA 123), (1, vI mi)]) (by intro q hq; simp only [List.mem_cons, List.not_mem_nil, or_false] at hq ⊢; rcases hq with rfl | rfl | rfl <;> simp) (l_lfI (h := H) (T := T) (n4 := n4) (k := k) hd hT RT1 hn4 (by omega) e9 ?_ (n4 + 1) 0 H (by omega) (by omega) Fr_r (fun s hs => by omega) OKm_r)
      intro h7 x7 hF7 a7 b7
      refine a_iconst dX9_learnsFrom_81 ⟨by decide, by decide⟩ ?_
      refine a_istore_n (lv' := [(2, vI 0), (0, vA 123), (1, vI mi)]) dX9_learnsFrom_82 rfl (by decide) rfl ?_
      have hC7 : CWf h7 T ((k : Int) + 1) := CWf_o (h := h1) (fun s m a b c e => hC s m a b (by omega) e) (OKm_t (fun q hq => by rw [← hHH]; exact ⟨up2_ne (by omega), up2_ne (by omega), up2_ne (by omega), up2_ne (by omega)⟩) b7) (by omega)
      refine a_lv (lv' := [(2, vI ((0 : Nat) : Int)), (0, vA 123), (1, vI mi)]) (by intro q hq; simp only [List.mem_cons, List.not_mem_nil, or_false] at hq ⊢; rcases hq with rfl | rfl | rfl <;> simp) (l_lfT (h := h7) (T := T) (n5 := n5) (k := k) hd hT (RT_fr (by decide) hF7 RT1) hn5 (by omega) ((Fr_v hF7 (by decide)).trans e9) hC7 ?_ (n5 + 1) 0 h7 (by omega) (by omega) Fr_r (fun s hs hg => a7 s (by omega)) OKm_r)
      intro h8 x8 hF8 a8 b8
      refine a_goto (tgt := 4) dX9_learnsFrom_149 (by decide) ?_
      have hC8 : CWf h8 T (k : Int) := CWf_s hT hn5 (by omega) hC7 b8 a8
      refine a_lv (lv' := [(0, vA 123), (1, vI mi)]) (by intro q hq; simp only [List.mem_cons, List.not_mem_nil, or_false] at hq ⊢; rcases hq with rfl | rfl <;> simp) (ih (by omega) h8 (Fr_t (Fr_t (Fr_t hF (Fr_m (by decide) eF)) (Fr_m (by decide) hF7)) (Fr_m (by decide) hF8)) (fun j hj => (Fr_v hF8 (by decide)).trans ((Fr_v hF7 (by decide)).trans ((ej j hj).trans (hq j hj)))) ((Fr_v hF8 (by decide)).trans ((Fr_v hF7 (by decide)).trans e9)) hC8)
theorem c_X9_learnsFrom {γ : GT} {d : Nat} {N : Nat → Int} {mi : Int} {h : Nat → Nat → Int} {τ : List AC} {Post : Option AV → List AC → Prop} (hd4 : 4 ≤ d) (hN : h 124 = N) (hv : NV N) (hkn : h 123 4 = 1 → KA h (tt N)) (h01 : h 123 4 = 0 ∨ h 123 4 = 1) (hB : dlB h) (hmi : 0 ≤ mi) (kQ : ∀ h', Fr [123, 127, 128, 129, 130, 133, 134, 135, 136, 143, 144] h h' → (∀ k, k ≠ 4 → k ≠ 9 → h' 123 k = h 123 k) → h' 123 4 = 1 → KA h' (tt N) → h' 123 9 ≤ mi → dlB h' → Post none (mk h' τ)) : Cj γ mX9_learnsFrom d 0 0 [vA 123, vI mi] (mk h τ) Post := by
  have hd : 3 ≤ d := by omega
  refine c_of (by decide) (Nat.le_of_ble_eq_true rfl) ?_
  show Aj γ mX9_learnsFrom d 0 0 Post 0 [(0, vA 123), (1, vI mi)] [] (mk h τ)
  refine a_aload_n (j := 0) dX9_learnsFrom_0 rfl rfl (Nat.le_of_ble_eq_true rfl) ?_
  refine b_callV (d' := d - 1) (mc' := 0) (ms' := 0) (mc1 := 0) (ms1 := 0) (st := []) (b := 123) [] dX9_learnsFrom_1 mwX9_learns lkX9_155 (by decide) rfl rc_X9 rfl (Nat.le_of_ble_eq_true rfl) (by omega) rfl rfl (c_X9_learns (N := N) (by omega) hN hv hkn h01 hB (fun h7 hF7 a7 b7 e7 d7 => ?_))
  show Aj γ mX9_learnsFrom d 0 0 Post 4 [(0, vA 123), (1, vI mi)] [] (mk h7 τ)
  have hk7 := e7.2.1
  obtain ⟨k0, hk0⟩ : ∃ k0 : Nat, h7 123 9 = (k0 : Int) := ⟨Int.toNat (h7 123 9), by omega⟩
  have e124 : h7 124 = N := (hF7 124 (by decide)).trans hN
  have RT7 : RT h7 (tt N) := ⟨by rw [e124]; exact NT_tt hv, e7.1⟩
  have hT := tt_OK hv
  have h3_ := hT.2.2.2.1
  have h2_ := hT.2.2.1
  obtain ⟨n4, hn4⟩ : ∃ n4 : Nat, tt N 0 3 = (n4 : Int) := ⟨Int.toNat (tt N 0 3), by omega⟩
  obtain ⟨n5, hn5⟩ : ∃ n5 : Nat, tt N 0 2 = (n5 : Int) := ⟨Int.toNat (tt N 0 2), by omega⟩
  have hC7 : CWf h7 (tt N) (k0 : Int) := fun s m a b c e => e7.2.2 s m a b (by omega) e
  refine l_lf (h := h7) (T := tt N) (mi := mi) hd hT RT7 hn4 hn5 hmi ?_ k0 (by omega) h7 Fr_r (fun j hj => rfl) hk0 hC7
  intro h8 k hk hF8 a8 b8 c8 d8
  have RT8 : RT h8 (tt N) := RT_fr (by decide) hF8 RT7
  refine kQ h8 (Fr_t (Fr_m (by decide) hF7) (Fr_m (by decide) hF8)) (fun j h1 h2 => (a8 j h2).trans (a7 j h1 h2)) ((a8 4 (by decide)).trans b7) ⟨RT8.2, by omega, fun s m a b c e => d8 s m a b (by omega) e⟩ (by omega) (fun q hq => by rw [hF8 130 (by decide)]; exact d7 q hq)
