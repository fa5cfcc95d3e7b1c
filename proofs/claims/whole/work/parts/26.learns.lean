/-! what the reference has worked out, over a timetable T -/
def dlB (h : Nat → Nat → Int) : Prop := ∀ q, q < 48 → 0 ≤ h 130 q ∧ h 130 q ≤ 42
def KN (h : Nat → Nat → Int) (T : Nat → Nat → Int) : Prop := (∀ s : Nat, (s : Int) < T 0 3 → h 127 s = T 1 s) ∧ ∀ t : Nat, (t : Int) < T 0 2 → h 128 t = T 6 t ∧ h 129 t = T 7 t ∧ ∀ s, s < 4 → h 130 (4 * t + s) = T 9 (4 * t + s) - T 6 t
def mcF (v : Int) : Int := if v = 2147483647 then 1000000000 else v
def CW (h : Nat → Nat → Int) (T : Nat → Nat → Int) : Prop := ∀ s m : Nat, (s : Int) < T 0 3 → ¬ (s : Int) = T 0 0 → h 123 9 ≤ (m : Int) → m < 1600 → h 133 (1600 * s + m) = WT 0 T s m ∧ h 134 (1600 * s + m) = TK T s m ∧ h 135 (1600 * s + m) = WT 1 T s m ∧ h 136 (1600 * s + m) = mcF (WT 2 T s m)
def KA (h : Nat → Nat → Int) (T : Nat → Nat → Int) : Prop := KN h T ∧ (0 ≤ h 123 9 ∧ h 123 9 ≤ 1600) ∧ CW h T
set_option maxHeartbeats 8000000 in
theorem l_lwalks {γ : GT} {d : Nat} {n : Nat} {h : Nat → Nat → Int} {τ : List AC} {Post : Option AV → List AC → Prop} (hd : 3 ≤ d) (hn : h 124 4 = ((n : Nat) : Int)) (hn6 : n ≤ 6) (hx : txOK (h 124)) (kE : ∀ h' i, Fr [127, 143, 144] h h' → (∀ s : Nat, s < n → h' 127 s = wkN (h 124) s) → Aj γ mX9_learns d 0 0 Post 49 [(1, vI i), (0, vA 123)] [] (mk h' τ)) :
    ∀ (f i : Nat) (h1 : Nat → Nat → Int), i ≤ n → n < i + f → Fr [127, 143, 144] h h1 → (∀ s : Nat, s < i → h1 127 s = wkN (h 124) s) → Aj γ mX9_learns d 0 0 Post 22 [(1, vI ((i : Nat) : Int)), (0, vA 123)] [] (mk h1 τ) := by
  intro f
  induction f with
  | zero => intro i h1  h1_ h2_; omega
  | succ f ih =>
    intro i h1  h1_ h2_ hF iv
    refine a_iload_n (j := 0) dX9_learns_22 rfl rfl ?_
    refine a_aload_n (j := 1) dX9_learns_23 rfl rfl (Nat.le_of_ble_eq_true rfl) ?_
    refine b_getp (a := 123) (p := 124) dX9_learns_24 fwX9_9 (by decide) rfl (by decide) rfl rfl ?_
    refine a_iconst dX9_learns_27 ⟨by decide, by decide⟩ ?_
    refine b_iaload (a := 124) (z := ((n : Nat) : Int)) 4 dX9_learns_28 (by decide) rfl rfl (by decide) rfl ((Fr_v hF (by decide)).trans hn) (fun r28_1 => ?_)
    refine a_icmp_ge (tgt := 49) dX9_learns_29 (by decide) (fun c29_2 => ?_) (fun c29_2 => ?_)
    · exact kE _ _ hF (fun s hs => iv s (by omega))
    · refine a_aload_n (j := 1) dX9_learns_32 rfl rfl (Nat.le_of_ble_eq_true rfl) ?_
      refine b_getp (a := 123) (p := 127) dX9_learns_33 fwX9_19 (by decide) rfl (by decide) rfl rfl ?_
      refine a_iload_n (j := 0) dX9_learns_36 rfl rfl ?_
      refine a_aload_n (j := 1) dX9_learns_37 rfl rfl (Nat.le_of_ble_eq_true rfl) ?_
      refine a_iload_n (j := 0) dX9_learns_38 rfl rfl ?_
      refine b_callV (d' := d - 1) (mc' := 0) (ms' := 0) (mc1 := 0) (ms1 := 0) (st := [vI ((i : Nat) : Int), vA 127]) (b := 123) [vI ((i : Nat) : Int)] dX9_learns_39 mwX9_walkOf lkX9_131 (by decide) rfl rc_X9 rfl (Nat.le_of_ble_eq_true rfl) (by omega) rfl rfl (c_X9_walkOf (N := (h 124)) (s := i) (by omega) (by omega) ((hF 124 (by decide)).trans rfl) hx (fun h3_ hF3_  => ?_))
      show Aj γ mX9_learns d 0 0 Post 42 [(1, vI ((i : Nat) : Int)), (0, vA 123)] [vI (wkN (h 124) i), vI ((i : Nat) : Int), vA 127] (mk h3_ τ)
      refine b_iastore (a := 127) i dX9_learns_42 (by decide) rfl rfl (by omega) (sp_nil rfl _) ?_
      refine a_iinc (j := 0) (z' := ((i + 1 : Nat) : Int)) (lv' := [(1, vI ((i + 1 : Nat) : Int)), (0, vA 123)]) dX9_learns_43 rfl (w_okN (by omega) (by omega) (by omega)) (by decide) rfl ?_
      refine a_goto (tgt := 22) dX9_learns_46 (by decide) ?_
      refine a_lv (lv' := [(1, vI (((i + 1) : Nat) : Int)), (0, vA 123)]) (by intro q hq; simp only [List.mem_cons, List.not_mem_nil, or_false] at hq ⊢; rcases hq with rfl | rfl <;> simp) (ih (i + 1) (up2 h3_ 127 i (wkN (h 124) i))  (by omega) (by omega) (Fr_u (by decide) (Fr_t (Fr_m (by decide) hF) (Fr_m (by decide) hF3_))) (fun s hs => by
          by_cases c : s = i
          · subst c; exact up2_at
          · exact (up2_ne (by omega)).trans ((Fr_v hF3_ (by decide)).trans (iv s (by omega)))))
set_option maxHeartbeats 8000000 in
theorem l_lsteps {γ : GT} {d : Nat} {t : Nat} {h : Nat → Nat → Int} {τ : List AC} {Post : Option AV → List AC → Prop} (hd : 3 ≤ d) (ht : t < 12) (hr : trR (h 124) t) (hO : ∀ u : Nat, u < t → ∀ s : Nat, s < 4 → h 130 (4 * u + s) = dlN (h 124) u s) (kE : ∀ h' i, Fr [130] h h' → (∀ s : Nat, s < 4 → h' 130 (4 * t + s) = dlN (h 124) t s) → (∀ q : Nat, q < 4 * t → h' 130 q = h 130 q) → dlB h' → Aj γ mX9_learns d 0 0 Post 133 [(2, vI i), (1, vI ((t : Nat) : Int)), (0, vA 123)] [] (mk h' τ)) :
    ∀ (f i : Nat) (h1 : Nat → Nat → Int), i ≤ 4 → 4 < i + f → Fr [130] h h1 → (∀ s : Nat, s < i → h1 130 (4 * t + s) = dlN (h 124) t s) → (∀ q : Nat, q < 4 * t → h1 130 q = h 130 q) → (dlB h1) → Aj γ mX9_learns d 0 0 Post 106 [(2, vI ((i : Nat) : Int)), (1, vI ((t : Nat) : Int)), (0, vA 123)] [] (mk h1 τ) := by
  intro f
  induction f with
  | zero => intro i h1  h1_ h2_; omega
  | succ f ih =>
    intro i h1  h1_ h2_ hF iv io ib
    refine a_iload_n (j := 0) dX9_learns_106 rfl rfl ?_
    refine a_iconst dX9_learns_107 ⟨by decide, by decide⟩ ?_
    refine a_icmp_ge (tgt := 133) dX9_learns_108 (by decide) (fun c108_1 => ?_) (fun c108_1 => ?_)
    · exact kE _ _ hF (fun s hs => iv s (by omega)) io ib
    · refine a_aload_n (j := 2) dX9_learns_111 rfl rfl (Nat.le_of_ble_eq_true rfl) ?_
      refine b_getp (a := 123) (p := 130) dX9_learns_112 fwX9_28 (by decide) rfl (by decide) rfl rfl ?_
      refine a_iconst dX9_learns_115 ⟨by decide, by decide⟩ ?_
      refine a_iload_n (j := 1) dX9_learns_116 rfl rfl ?_
      refine a_imul (z := (4 * ((t : Nat) : Int))) dX9_learns_117 (w_ok (by omega) (by omega)) ?_
      refine a_iload_n (j := 0) dX9_learns_118 rfl rfl ?_
      refine a_iadd (z := ((4 * ((t : Nat) : Int)) + ((i : Nat) : Int))) dX9_learns_119 (w_ok (by omega) (by omega)) ?_
      refine a_aload_n (j := 2) dX9_learns_120 rfl rfl (Nat.le_of_ble_eq_true rfl) ?_
      refine a_iload_n (j := 1) dX9_learns_121 rfl rfl ?_
      refine a_iload_n (j := 0) dX9_learns_122 rfl rfl ?_
      have hb := ib (Int.toNat ((4 * (h 124 (21 + 11 * t))) + ((i : Nat) : Int))) (by have := hr.2.2.2.2.2.2.1; omega)
      have hh := hr.2.2.2.2.2.2.1
      refine b_callV (d' := d - 1) (mc' := 0) (ms' := 0) (mc1 := 0) (ms1 := 0) (st := [vI ((4 * ((t : Nat) : Int)) + ((i : Nat) : Int)), vA 130]) (b := 123) [vI ((t : Nat) : Int), vI ((i : Nat) : Int)] dX9_learns_123 mwX9_delayOf lkX9_140 (by decide) rfl rc_X9 rfl (Nat.le_of_ble_eq_true rfl) (by omega) rfl rfl (c_X9_delayOf (v1 := (h 124 (21 + 11 * t))) (v2 := (h1 130 (Int.toNat ((4 * (h 124 (21 + 11 * t))) + ((i : Nat) : Int))))) (v3 := (h 124 (15 + 11 * t))) (by omega)  ((Fr_v hF (by decide)).trans (congrArg (h 124) (show (Int.toNat ((15 + (11 * ((t : Nat) : Int))) + 6)) = (21 + 11 * t) by omega))) rfl ((Fr_v hF (by decide)).trans (congrArg (h 124) (show (Int.toNat ((15 + (11 * ((t : Nat) : Int))) + 0)) = (15 + 11 * t) by omega))) (show 0 ≤ ((t : Nat) : Int) ∧ ((t : Nat) : Int) ≤ 11 by omega) (show 0 ≤ ((i : Nat) : Int) ∧ ((i : Nat) : Int) ≤ 3 by omega) (show (h 124 (21 + 11 * t)) ≤ 11 by omega) (show 0 ≤ (h1 130 (Int.toNat ((4 * (h 124 (21 + 11 * t))) + ((i : Nat) : Int)))) ∧ (h1 130 (Int.toNat ((4 * (h 124 (21 + 11 * t))) + ((i : Nat) : Int)))) ≤ 1000 by omega) ?_)
      show Aj γ mX9_learns d 0 0 Post 126 [(2, vI ((i : Nat) : Int)), (1, vI ((t : Nat) : Int)), (0, vA 123)] [vI (delF (h 124 (15 + 11 * t)) ((i : Nat) : Int) (if (h 124 (21 + 11 * t)) < 0 then 0 else (h1 130 (Int.toNat ((4 * (h 124 (21 + 11 * t))) + ((i : Nat) : Int)))))), vI ((4 * ((t : Nat) : Int)) + ((i : Nat) : Int)), vA 130] (mk h1 τ)
      refine b_iastore (a := 130) (4 * t + i) dX9_learns_126 (by decide) rfl (by omega) (by omega) (sp_nil rfl _) ?_
      refine a_iinc (j := 0) (z' := ((i + 1 : Nat) : Int)) (lv' := [(2, vI ((i + 1 : Nat) : Int)), (1, vI ((t : Nat) : Int)), (0, vA 123)]) dX9_learns_127 rfl (w_okN (by omega) (by omega) (by omega)) (by decide) rfl ?_
      refine a_goto (tgt := 106) dX9_learns_130 (by decide) ?_
      have hv : (delF (h 124 (15 + 11 * t)) ((i : Nat) : Int) (if (h 124 (21 + 11 * t)) < 0 then 0 else (h1 130 (Int.toNat ((4 * (h 124 (21 + 11 * t))) + ((i : Nat) : Int)))))) = dlN (h 124) t i := by
        rw [dlN_eq hr.2.2.2.2.2.2.1.2]
        by_cases c : h 124 (21 + 11 * t) < 0
        · rw [if_pos c, if_pos c]
        · rw [if_neg c, if_neg c, io _ (by omega)]
          rw [show Int.toNat (4 * h 124 (21 + 11 * t) + ((i : Nat) : Int)) = 4 * Int.toNat (h 124 (21 + 11 * t)) + i by omega]
          rw [hO _ (by omega) i (by omega)]
      refine a_lv (lv' := [(2, vI (((i + 1) : Nat) : Int)), (1, vI ((t : Nat) : Int)), (0, vA 123)]) (by intro q hq; simp only [List.mem_cons, List.not_mem_nil, or_false] at hq ⊢; rcases hq with rfl | rfl | rfl <;> simp) (ih (i + 1) (up2 h1 130 (4 * t + i) (delF (h 124 (15 + 11 * t)) ((i : Nat) : Int) (if (h 124 (21 + 11 * t)) < 0 then 0 else (h1 130 (Int.toNat ((4 * (h 124 (21 + 11 * t))) + ((i : Nat) : Int)))))))  (by omega) (by omega) (Fr_u (by decide) (Fr_m (by decide) hF)) (fun s hs => by
          by_cases c : s = i
          · subst c; exact up2_at.trans hv
          · exact (up2_ne (by omega)).trans (iv s (by omega))) (fun q hq => (up2_ne (by omega)).trans (io q hq)) (fun q hq => by
          by_cases c : q = 4 * t + i
          · subst c; rw [up2_at, hv]; exact dlN_rng (by omega)
          · rw [up2_ne (by omega)]; exact ib q hq))
set_option maxHeartbeats 8000000 in
theorem l_ltrains {γ : GT} {d : Nat} {n : Nat} {h : Nat → Nat → Int} {τ : List AC} {Post : Option AV → List AC → Prop} (hd : 3 ≤ d) (hn : h 124 5 = ((n : Nat) : Int)) (hn12 : n ≤ 12) (hx : txOK (h 124)) (hT : trOK (h 124)) (kE : ∀ h', Fr [128, 129, 130, 143, 144] h h' → (∀ u : Nat, u < n → h' 128 u = goN (h 124) u ∧ h' 129 u = wtN (h 124) u) → (∀ u : Nat, u < n → ∀ s : Nat, s < 4 → h' 130 (4 * u + s) = dlN (h 124) u s) → dlB h' → Post none (mk h' τ)) :
    ∀ (f i : Nat) (h1 : Nat → Nat → Int), i ≤ n → n < i + f → Fr [128, 129, 130, 143, 144] h h1 → (∀ u : Nat, u < i → h1 128 u = goN (h 124) u ∧ h1 129 u = wtN (h 124) u) → (∀ u : Nat, u < i → ∀ s : Nat, s < 4 → h1 130 (4 * u + s) = dlN (h 124) u s) → (dlB h1) → Aj γ mX9_learns d 0 0 Post 51 [(1, vI ((i : Nat) : Int)), (0, vA 123)] [] (mk h1 τ) := by
  intro f
  induction f with
  | zero => intro i h1  h1_ h2_; omega
  | succ f ih =>
    intro i h1  h1_ h2_ hF iv iw ib
    refine a_iload_n (j := 0) dX9_learns_51 rfl rfl ?_
    refine a_aload_n (j := 1) dX9_learns_52 rfl rfl (Nat.le_of_ble_eq_true rfl) ?_
    refine b_getp (a := 123) (p := 124) dX9_learns_53 fwX9_9 (by decide) rfl (by decide) rfl rfl ?_
    refine a_iconst dX9_learns_56 ⟨by decide, by decide⟩ ?_
    refine b_iaload (a := 124) (z := ((n : Nat) : Int)) 5 dX9_learns_57 (by decide) rfl rfl (by decide) rfl ((Fr_v hF (by decide)).trans hn) (fun r57_1 => ?_)
    refine a_icmp_ge (tgt := 139) dX9_learns_58 (by decide) (fun c58_2 => ?_) (fun c58_2 => ?_)
    · exact a_vret dX9_learns_139 rfl (kE _ hF (fun u hu => iv u (by omega)) (fun u hu => iw u (by omega)) ib)
    · have hr : trR (h 124) i := hT i (by omega)
      have hr1 := hr.1
      have hr4 := hr.2.2.2.1
      have htd := tdN_rng (N := h 124) (t := i)
      refine a_aload_n (j := 1) dX9_learns_61 rfl rfl (Nat.le_of_ble_eq_true rfl) ?_
      refine b_getp (a := 123) (p := 128) dX9_learns_62 fwX9_22 (by decide) rfl (by decide) rfl rfl ?_
      refine a_iload_n (j := 0) dX9_learns_65 rfl rfl ?_
      refine a_aload_n (j := 1) dX9_learns_66 rfl rfl (Nat.le_of_ble_eq_true rfl) ?_
      refine a_iload_n (j := 0) dX9_learns_67 rfl rfl ?_
      refine a_iconst dX9_learns_68 ⟨by decide, by decide⟩ ?_
      refine b_callV (d' := d - 1) (mc' := 0) (ms' := 0) (mc1 := 0) (ms1 := 0) (st := [vI ((i : Nat) : Int), vA 128]) (b := 123) [vI ((i : Nat) : Int), vI 3] dX9_learns_69 mwX9_of lkX9_107 (by decide) rfl rc_X9 rfl (Nat.le_of_ble_eq_true rfl) (by omega) rfl rfl (c_X9_of (v1 := (h 124 (18 + 11 * i))) (by omega)  ((Fr_v hF (by decide)).trans (congrArg (h 124) (show (Int.toNat ((15 + (11 * ((i : Nat) : Int))) + 3)) = (18 + 11 * i) by omega))) (show 0 ≤ ((i : Nat) : Int) ∧ ((i : Nat) : Int) ≤ 11 ∧ 0 ≤ 3 ∧ 3 ≤ 10 by omega) ?_)
      show Aj γ mX9_learns d 0 0 Post 72 [(1, vI ((i : Nat) : Int)), (0, vA 123)] [vI (h 124 (18 + 11 * i)), vI ((i : Nat) : Int), vA 128] (mk h1 τ)
      refine a_aload_n (j := 1) dX9_learns_72 rfl rfl (Nat.le_of_ble_eq_true rfl) ?_
      refine a_iload_n (j := 0) dX9_learns_73 rfl rfl ?_
      refine a_iconst dX9_learns_74 ⟨by decide, by decide⟩ ?_
      refine b_callV (d' := d - 1) (mc' := 0) (ms' := 0) (mc1 := 0) (ms1 := 0) (st := [vI (h 124 (18 + 11 * i)), vI ((i : Nat) : Int), vA 128]) (b := 123) [vI ((i : Nat) : Int), vI 0] dX9_learns_75 mwX9_of lkX9_107 (by decide) rfl rc_X9 rfl (Nat.le_of_ble_eq_true rfl) (by omega) rfl rfl (c_X9_of (v1 := (h 124 (15 + 11 * i))) (by omega)  ((Fr_v hF (by decide)).trans (congrArg (h 124) (show (Int.toNat ((15 + (11 * ((i : Nat) : Int))) + 0)) = (15 + 11 * i) by omega))) (show 0 ≤ ((i : Nat) : Int) ∧ ((i : Nat) : Int) ≤ 11 ∧ 0 ≤ 0 ∧ 0 ≤ 10 by omega) ?_)
      show Aj γ mX9_learns d 0 0 Post 78 [(1, vI ((i : Nat) : Int)), (0, vA 123)] [vI (h 124 (15 + 11 * i)), vI (h 124 (18 + 11 * i)), vI ((i : Nat) : Int), vA 128] (mk h1 τ)
      refine a_iconst dX9_learns_78 ⟨by decide, by decide⟩ ?_
      refine a_icmp_ne (tgt := 90) dX9_learns_79 (by decide) (fun c79_3 => ?_) (fun c79_3 => ?_)
      · refine a_iconst dX9_learns_90 ⟨by decide, by decide⟩ ?_
        refine a_iadd (z := (h 124 (18 + 11 * i)) + 0) dX9_learns_91 (w_ok (by omega) (by omega)) ?_
        refine b_iastore (a := 128) i dX9_learns_92 (by decide) rfl rfl (by omega) (sp_nil rfl _) ?_
        refine a_aload_n (j := 1) dX9_learns_93 rfl rfl (Nat.le_of_ble_eq_true rfl) ?_
        refine b_getp (a := 123) (p := 129) dX9_learns_94 fwX9_25 (by decide) rfl (by decide) rfl rfl ?_
        refine a_iload_n (j := 0) dX9_learns_97 rfl rfl ?_
        refine a_aload_n (j := 1) dX9_learns_98 rfl rfl (Nat.le_of_ble_eq_true rfl) ?_
        refine a_iload_n (j := 0) dX9_learns_99 rfl rfl ?_
        refine b_callV (d' := d - 1) (mc' := 0) (ms' := 0) (mc1 := 0) (ms1 := 0) (st := [vI ((i : Nat) : Int), vA 129]) (b := 123) [vI ((i : Nat) : Int)] dX9_learns_100 mwX9_waitsOf lkX9_137 (by decide) rfl rc_X9 rfl (Nat.le_of_ble_eq_true rfl) (by omega) rfl rfl (c_X9_waitsOf (N := (h 124)) (t := i) (by omega) (by omega) ((up2_row (by omega)).trans ((hF 124 (by decide)).trans rfl)) hx (by omega) (fun h4_ hF4_  => ?_))
        show Aj γ mX9_learns d 0 0 Post 103 [(1, vI ((i : Nat) : Int)), (0, vA 123)] [vI (wtN (h 124) i), vI ((i : Nat) : Int), vA 129] (mk h4_ τ)
        refine b_iastore (a := 129) i dX9_learns_103 (by decide) rfl rfl (by omega) (sp_nil rfl _) ?_
        refine a_iconst dX9_learns_104 ⟨by decide, by decide⟩ ?_
        refine a_istore_n (lv' := [(2, vI 0), (1, vI ((i : Nat) : Int)), (0, vA 123)]) dX9_learns_105 rfl (by decide) rfl ?_
        have g1 : (up2 h4_ 129 i (wtN (h 124) i)) 124 = h 124 := ((up2_row (by omega)).trans ((hF4_ 124 (by decide)).trans ((up2_row (by omega)).trans ((hF 124 (by decide)).trans rfl))))
        have g2 : (up2 h4_ 129 i (wtN (h 124) i)) 130 = h1 130 := ((up2_row (by omega)).trans ((hF4_ 130 (by decide)).trans ((up2_row (by omega)).trans rfl)))
        have g3 : (up2 h4_ 129 i (wtN (h 124) i)) 128 i = (h 124 (18 + 11 * i)) + 0 := ((up2_ne (by omega)).trans ((Fr_v hF4_ (by decide)).trans up2_at))
        have g4 : (up2 h4_ 129 i (wtN (h 124) i)) 129 i = (wtN (h 124) i) := up2_at
        have o128 : ∀ u : Nat, u < i → (up2 h4_ 129 i (wtN (h 124) i)) 128 u = h1 128 u := fun u hu => by rw [up2_ne (by omega), Fr_v hF4_ (by decide), up2_ne (by omega)]
        have o129 : ∀ u : Nat, u < i → (up2 h4_ 129 i (wtN (h 124) i)) 129 u = h1 129 u := fun u hu => by rw [up2_ne (by omega), Fr_v hF4_ (by decide), up2_ne (by omega)]
        have hgo : (h 124 (18 + 11 * i)) + 0 = goN (h 124) i := by unfold goN; first | rw [if_pos (by omega)] | (rw [if_neg (by omega)])
        refine a_lv (lv' := [(2, vI ((0 : Nat) : Int)), (1, vI ((i : Nat) : Int)), (0, vA 123)]) (by intro q hq; simp only [List.mem_cons, List.not_mem_nil, or_false] at hq ⊢; rcases hq with rfl | rfl | rfl <;> simp) (l_lsteps (h := (up2 h4_ 129 i (wtN (h 124) i))) (t := i) hd (by omega) (by rw [g1]; exact hr) (fun u hu s hs => by rw [g2, g1]; exact iw u hu s hs) ?_ 5 0 (up2 h4_ 129 i (wtN (h 124) i)) (by omega) (by omega) Fr_r (fun s hs => by omega) (fun q hq => rfl) (fun q hq => by rw [g2]; exact ib q hq))
        intro h9 i9 hG j1 j2 j3
        rw [g1] at j1
        refine a_iinc (j := 1) (z' := ((i + 1 : Nat) : Int)) (lv' := [(1, vI ((i + 1 : Nat) : Int)), (2, vI i9), (0, vA 123)]) dX9_learns_133 rfl (w_okN (by omega) (by omega) (by omega)) (by decide) rfl ?_
        refine a_goto (tgt := 51) dX9_learns_136 (by decide) ?_
        refine a_lv (lv' := [(1, vI (((i + 1) : Nat) : Int)), (0, vA 123)]) (by intro q hq; simp only [List.mem_cons, List.not_mem_nil, or_false] at hq ⊢; rcases hq with rfl | rfl <;> simp) (ih (i + 1) h9  (by omega) (by omega) (Fr_t (Fr_u (by decide) (Fr_t (Fr_u (by decide) (Fr_m (by decide) hF)) (Fr_m (by decide) hF4_))) (Fr_m (by decide) hG)) (fun u hu => by
          rw [Fr_v hG (by decide), Fr_v hG (by decide)]
          by_cases c : u = i
          · subst c; exact ⟨g3.trans hgo, g4⟩
          · rw [o128 u (by omega), o129 u (by omega)]; exact iv u (by omega)) (fun u hu s hs => by
          by_cases c : u = i
          · subst c; exact j1 s hs
          · rw [j2 _ (by omega), g2]; exact iw u (by omega) s hs) j3)
      · refine a_aload_n (j := 1) dX9_learns_82 rfl rfl (Nat.le_of_ble_eq_true rfl) ?_
        refine a_iload_n (j := 0) dX9_learns_83 rfl rfl ?_
        refine b_callV (d' := d - 1) (mc' := 0) (ms' := 0) (mc1 := 0) (ms1 := 0) (st := [vI (h 124 (18 + 11 * i)), vI ((i : Nat) : Int), vA 128]) (b := 123) [vI ((i : Nat) : Int)] dX9_learns_84 mwX9_tideOf lkX9_134 (by decide) rfl rc_X9 rfl (Nat.le_of_ble_eq_true rfl) (by omega) rfl rfl (c_X9_tideOf (N := (h 124)) (t := i) (by omega) (by omega) ((hF 124 (by decide)).trans rfl) hx (fun h5_ hF5_  => ?_))
        show Aj γ mX9_learns d 0 0 Post 87 [(1, vI ((i : Nat) : Int)), (0, vA 123)] [vI (tdN (h 124) i), vI (h 124 (18 + 11 * i)), vI ((i : Nat) : Int), vA 128] (mk h5_ τ)
        refine a_goto (tgt := 91) dX9_learns_87 (by decide) ?_
        refine a_iadd (z := ((h 124 (18 + 11 * i)) + (tdN (h 124) i))) dX9_learns_91 (w_ok (by omega) (by omega)) ?_
        refine b_iastore (a := 128) i dX9_learns_92 (by decide) rfl rfl (by omega) (sp_nil rfl _) ?_
        refine a_aload_n (j := 1) dX9_learns_93 rfl rfl (Nat.le_of_ble_eq_true rfl) ?_
        refine b_getp (a := 123) (p := 129) dX9_learns_94 fwX9_25 (by decide) rfl (by decide) rfl rfl ?_
        refine a_iload_n (j := 0) dX9_learns_97 rfl rfl ?_
        refine a_aload_n (j := 1) dX9_learns_98 rfl rfl (Nat.le_of_ble_eq_true rfl) ?_
        refine a_iload_n (j := 0) dX9_learns_99 rfl rfl ?_
        refine b_callV (d' := d - 1) (mc' := 0) (ms' := 0) (mc1 := 0) (ms1 := 0) (st := [vI ((i : Nat) : Int), vA 129]) (b := 123) [vI ((i : Nat) : Int)] dX9_learns_100 mwX9_waitsOf lkX9_137 (by decide) rfl rc_X9 rfl (Nat.le_of_ble_eq_true rfl) (by omega) rfl rfl (c_X9_waitsOf (N := (h 124)) (t := i) (by omega) (by omega) ((up2_row (by omega)).trans ((hF5_ 124 (by decide)).trans ((hF 124 (by decide)).trans rfl))) hx (by omega) (fun h6_ hF6_  => ?_))
        show Aj γ mX9_learns d 0 0 Post 103 [(1, vI ((i : Nat) : Int)), (0, vA 123)] [vI (wtN (h 124) i), vI ((i : Nat) : Int), vA 129] (mk h6_ τ)
        refine b_iastore (a := 129) i dX9_learns_103 (by decide) rfl rfl (by omega) (sp_nil rfl _) ?_
        refine a_iconst dX9_learns_104 ⟨by decide, by decide⟩ ?_
        refine a_istore_n (lv' := [(2, vI 0), (1, vI ((i : Nat) : Int)), (0, vA 123)]) dX9_learns_105 rfl (by decide) rfl ?_
        have g1 : (up2 h6_ 129 i (wtN (h 124) i)) 124 = h 124 := ((up2_row (by omega)).trans ((hF6_ 124 (by decide)).trans ((up2_row (by omega)).trans ((hF5_ 124 (by decide)).trans ((hF 124 (by decide)).trans rfl)))))
        have g2 : (up2 h6_ 129 i (wtN (h 124) i)) 130 = h1 130 := ((up2_row (by omega)).trans ((hF6_ 130 (by decide)).trans ((up2_row (by omega)).trans ((hF5_ 130 (by decide)).trans rfl))))
        have g3 : (up2 h6_ 129 i (wtN (h 124) i)) 128 i = ((h 124 (18 + 11 * i)) + (tdN (h 124) i)) := ((up2_ne (by omega)).trans ((Fr_v hF6_ (by decide)).trans up2_at))
        have g4 : (up2 h6_ 129 i (wtN (h 124) i)) 129 i = (wtN (h 124) i) := up2_at
        have o128 : ∀ u : Nat, u < i → (up2 h6_ 129 i (wtN (h 124) i)) 128 u = h1 128 u := fun u hu => by rw [up2_ne (by omega), Fr_v hF6_ (by decide), up2_ne (by omega), Fr_v hF5_ (by decide)]
        have o129 : ∀ u : Nat, u < i → (up2 h6_ 129 i (wtN (h 124) i)) 129 u = h1 129 u := fun u hu => by rw [up2_ne (by omega), Fr_v hF6_ (by decide), up2_ne (by omega), Fr_v hF5_ (by decide)]
        have hgo : ((h 124 (18 + 11 * i)) + (tdN (h 124) i)) = goN (h 124) i := by unfold goN; first | rw [if_pos (by omega)] | (rw [if_neg (by omega)])
        refine a_lv (lv' := [(2, vI ((0 : Nat) : Int)), (1, vI ((i : Nat) : Int)), (0, vA 123)]) (by intro q hq; simp only [List.mem_cons, List.not_mem_nil, or_false] at hq ⊢; rcases hq with rfl | rfl | rfl <;> simp) (l_lsteps (h := (up2 h6_ 129 i (wtN (h 124) i))) (t := i) hd (by omega) (by rw [g1]; exact hr) (fun u hu s hs => by rw [g2, g1]; exact iw u hu s hs) ?_ 5 0 (up2 h6_ 129 i (wtN (h 124) i)) (by omega) (by omega) Fr_r (fun s hs => by omega) (fun q hq => rfl) (fun q hq => by rw [g2]; exact ib q hq))
        intro h9 i9 hG j1 j2 j3
        rw [g1] at j1
        refine a_iinc (j := 1) (z' := ((i + 1 : Nat) : Int)) (lv' := [(1, vI ((i + 1 : Nat) : Int)), (2, vI i9), (0, vA 123)]) dX9_learns_133 rfl (w_okN (by omega) (by omega) (by omega)) (by decide) rfl ?_
        refine a_goto (tgt := 51) dX9_learns_136 (by decide) ?_
        refine a_lv (lv' := [(1, vI (((i + 1) : Nat) : Int)), (0, vA 123)]) (by intro q hq; simp only [List.mem_cons, List.not_mem_nil, or_false] at hq ⊢; rcases hq with rfl | rfl <;> simp) (ih (i + 1) h9  (by omega) (by omega) (Fr_t (Fr_u (by decide) (Fr_t (Fr_u (by decide) (Fr_t (Fr_m (by decide) hF) (Fr_m (by decide) hF5_))) (Fr_m (by decide) hF6_))) (Fr_m (by decide) hG)) (fun u hu => by
          rw [Fr_v hG (by decide), Fr_v hG (by decide)]
          by_cases c : u = i
          · subst c; exact ⟨g3.trans hgo, g4⟩
          · rw [o128 u (by omega), o129 u (by omega)]; exact iv u (by omega)) (fun u hu s hs => by
          by_cases c : u = i
          · subst c; exact j1 s hs
          · rw [j2 _ (by omega), g2]; exact iw u (by omega) s hs) j3)
set_option maxHeartbeats 8000000 in
theorem c_X9_learns {γ : GT} {d : Nat} {N : Nat → Int} {h : Nat → Nat → Int} {τ : List AC} {Post : Option AV → List AC → Prop} (hd : 3 ≤ d) (hN : h 124 = N) (hv : NV N) (hkn : h 123 4 = 1 → KA h (tt N)) (h01 : h 123 4 = 0 ∨ h 123 4 = 1) (hB : dlB h) (kQ : ∀ h', Fr [123, 127, 128, 129, 130, 143, 144] h h' → (∀ k, k ≠ 4 → k ≠ 9 → h' 123 k = h 123 k) → h' 123 4 = 1 → KA h' (tt N) → dlB h' → Post none (mk h' τ)) : Cj γ mX9_learns d 0 0 [vA 123] (mk h τ) Post := by
  subst hN
  have hx := hv.2.2.2
  have hT := hv.2.2.1
  have hsc := hv.1
  have hs4 := hsc.2.2.2.1
  have hs5 := hsc.2.2.2.2
  refine c_of (by decide) (Nat.le_of_ble_eq_true rfl) ?_
  show Aj γ mX9_learns d 0 0 Post 0 [(0, vA 123)] [] (mk h τ)
  refine a_aload_n (j := 0) dX9_learns_0 rfl rfl (Nat.le_of_ble_eq_true rfl) ?_
  refine b_get (a := 123) (z := h 123 4) (t := 0) dX9_learns_1 fwX9_111 (by decide) rfl (by decide) rfl rfl rfl ?_
  refine a_if_eq (tgt := 8) dX9_learns_4 (by decide) (fun c4_1 => ?_) (fun c4_1 => ?_)
  · refine a_aload_n (j := 0) dX9_learns_8 rfl rfl (Nat.le_of_ble_eq_true rfl) ?_
    refine a_iconst dX9_learns_9 ⟨by decide, by decide⟩ ?_
    refine b_put (a := 123) (v := vI 1) dX9_learns_10 pwX9_111 (fun h => nomatch h) (by decide) rfl (by decide) rfl rfl (fit_bool (by first | exact Or.inl rfl | exact Or.inr rfl | omega)) ?_
    show Aj γ mX9_learns d 0 0 Post 13 [(0, vA 123)] [] (mk (up2 h 123 4 1) τ)
    refine a_aload_n (j := 0) dX9_learns_13 rfl rfl (Nat.le_of_ble_eq_true rfl) ?_
    refine a_sipush dX9_learns_14 ⟨by decide, by decide, by decide⟩ ?_
    refine b_put (a := 123) (v := vI 1600) dX9_learns_17 pwX9_127 (fun h => nomatch h) (by decide) rfl (by decide) rfl rfl (fit_int _) ?_
    show Aj γ mX9_learns d 0 0 Post 20 [(0, vA 123)] [] (mk (up2 (up2 h 123 4 1) 123 9 1600) τ)
    refine a_iconst dX9_learns_20 ⟨by decide, by decide⟩ ?_
    refine a_istore_n (lv' := [(1, vI 0), (0, vA 123)]) dX9_learns_21 rfl (by decide) rfl ?_
    generalize hHH : (up2 (up2 h 123 4 1) 123 9 1600) = H
    have q124 : H 124 = h 124 := by rw [← hHH, up2_row (by decide), up2_row (by decide)]
    have q130 : H 130 = h 130 := by rw [← hHH, up2_row (by decide), up2_row (by decide)]
    have q4 : H 123 4 = 1 := by rw [← hHH, up2_ne (by decide), up2_at]
    have q9 : H 123 9 = 1600 := by rw [← hHH, up2_at]
    have qk : ∀ k, k ≠ 4 → k ≠ 9 → H 123 k = h 123 k := fun k h1 h2 => by rw [← hHH, up2_ne (by omega), up2_ne (by omega)]
    have qF : Fr [123] h H := by rw [← hHH]; exact Fr_u (by decide) (Fr_u (by decide) Fr_r)
    obtain ⟨n4, hn4⟩ : ∃ n4 : Nat, h 124 4 = (n4 : Int) := ⟨Int.toNat (h 124 4), by omega⟩
    obtain ⟨n5, hn5⟩ : ∃ n5 : Nat, h 124 5 = (n5 : Int) := ⟨Int.toNat (h 124 5), by omega⟩
    refine a_lv (lv' := [(1, vI ((0 : Nat) : Int)), (0, vA 123)]) (by intro q hq; simp only [List.mem_cons, List.not_mem_nil, or_false] at hq ⊢; rcases hq with rfl | rfl <;> simp) (l_lwalks (h := H) (n := n4) hd (by rw [q124]; exact hn4) (by omega) (by rw [q124]; exact hx) ?_ (n4 + 1) 0 H (by omega) (by omega) Fr_r (fun s hs => by omega))
    intro h9 i9 hG j1
    rw [q124] at j1
    have r124 : h9 124 = h 124 := (hG 124 (by decide)).trans q124
    refine a_iconst dX9_learns_49 ⟨by decide, by decide⟩ ?_
    refine a_istore_n (lv' := [(1, vI 0), (0, vA 123)]) dX9_learns_50 rfl (by decide) rfl ?_
    refine a_lv (lv' := [(1, vI ((0 : Nat) : Int)), (0, vA 123)]) (by intro q hq; simp only [List.mem_cons, List.not_mem_nil, or_false] at hq ⊢; rcases hq with rfl | rfl <;> simp) (l_ltrains (h := h9) (n := n5) hd (by rw [r124]; exact hn5) (by omega) (by rw [r124]; exact hx) (by rw [r124]; exact hT) ?_ (n5 + 1) 0 h9 (by omega) (by omega) Fr_r (fun u hu => by omega) (fun u hu => by omega) (fun q hq => by rw [hG 130 (by decide), q130]; exact hB q hq))
    intro h8 hG8 k1 k2 k3
    rw [r124] at k1 k2
    have e8 : ∀ k, h8 123 k = H 123 k := fun k => (Fr_v hG8 (by decide)).trans (Fr_v hG (by decide))
    refine kQ h8 ?_ (fun k a b => (e8 k).trans (qk k a b)) ((e8 4).trans q4) ?_ k3
    · exact Fr_t (Fr_t (Fr_m (by decide) qF) (Fr_m (by decide) hG)) (Fr_m (by decide) hG8)
    · refine ⟨⟨?_, ?_⟩, by rw [e8, q9]; omega, ?_⟩
      · intro s hs
        have hs : (s : Int) < h 124 4 := hs
        rw [Fr_v hG8 (by decide), j1 s (by omega)]
        exact (if_pos hs).symm
      · intro t ht
        have ht : (t : Int) < h 124 5 := ht
        have a1 := k1 t (by omega)
        refine ⟨a1.1.trans (if_pos ht).symm, a1.2.trans (if_pos ht).symm, fun s hs => ?_⟩
        rw [k2 t (by omega) s hs, tt9 hs ht, show tt (h 124) 6 t = goN (h 124) t from if_pos ht]
        omega
      · intro s m _ _ hm hm2
        rw [e8, q9] at hm
        omega
  · exact a_vret dX9_learns_7 rfl (kQ h Fr_r (fun _ _ _ => rfl) (by omega) (hkn (by omega)) hB)
