/-! THE CLASS'S TIMETABLE holds T -/
def TTm (h : Nat → Nat → Int) (T : Nat → Nat → Int) : Prop := h 63 13 = plT T 0 ∧ (∀ m : Nat, m ≤ 1589 → h 74 m = plT T m) ∧ ∀ p : Nat, 1 ≤ p → (p : Int) ≤ plT T 0 → 0 ≤ h 73 p ∧ h 73 p ≤ 1589 ∧ cbT T (h 73 p) (Int.toNat (T 0 2)) = true ∧ plT T (h 73 p) = (p : Int)
def TT (h : Nat → Nat → Int) (T : Nat → Nat → Int) : Prop := (h 63 1 = T 0 0 ∧ h 63 2 = T 0 1 ∧ h 63 3 = T 0 2) ∧ (∀ s : Nat, (s : Int) < T 0 3 → h 64 s = T 1 s) ∧ (∀ t : Nat, (t : Int) < T 0 2 → h 65 t = T 2 t ∧ h 66 t = T 3 t ∧ h 67 t = T 4 t ∧ h 68 t = T 5 t ∧ h 69 t = T 6 t ∧ h 70 t = T 7 t ∧ ∀ s, s < 4 → h 71 (4 * t + s) = T 8 (4 * t + s) ∧ h 72 (4 * t + s) = T 9 (4 * t + s)) ∧ TTm h T
/-- places while they are found: of the last i minutes -/
def plS (T : Nat → Nat → Int) (n i m : Nat) : Int := if 1589 - (i : Int) < (m : Int) then pkT T n (1590 - m) else if cbT T m n = true then 1 else 0
theorem plS_ne {T : Nat → Nat → Int} {n i m : Nat} (h : ¬ (m : Int) = 1589 - (i : Int)) : plS T n (i + 1) m = plS T n i m := by
  unfold plS
  by_cases c : 1589 - (i : Int) < (m : Int)
  · rw [if_pos c, if_pos (by omega)]
  · rw [if_neg c, if_neg (by omega)]
theorem plS_at {T : Nat → Nat → Int} {n i m : Nat} (h : (m : Int) = 1589 - (i : Int)) : plS T n (i + 1) m = pkT T n (i + 1) := by
  unfold plS
  rw [if_pos (by omega), show 1590 - m = i + 1 by omega]
theorem plS_b {T : Nat → Nat → Int} {n i m : Nat} (h : (m : Int) ≤ 1589 - (i : Int)) : (plS T n i m = 1 ∧ cbT T m n = true) ∨ (plS T n i m = 0 ∧ ¬ cbT T m n = true) := by
  unfold plS
  rw [if_neg (by omega)]
  by_cases c : cbT T m n = true
  · rw [if_pos c]; exact Or.inl ⟨rfl, c⟩
  · rw [if_neg c]; exact Or.inr ⟨rfl, c⟩
theorem pl_pk {T : Nat → Nat → Int} {n : Nat} (h : T 0 2 = (n : Int)) (m : Int) : plT T m = pkT T n (Int.toNat (1590 - m)) := by
  unfold plT
  rw [show Int.toNat (T 0 2) = n by omega]
theorem cb_s {T : Nat → Nat → Int} {m : Int} {n : Nat} : cbT T m (n + 1) = (cbT T m n || decide (T 6 n ≤ m ∧ m ≤ lsT T n)) := rfl
set_option maxHeartbeats 8000000 in
theorem l_fmA {γ : GT} {d : Nat} {n t e : Nat} {T : Nat → Nat → Int} {h : Nat → Nat → Int} {τ : List AC} {Post : Option AV → List AC → Prop} (hT : tOK T) (hT2 : T 0 2 = ((n : Nat) : Int)) (hn3 : h 63 3 = ((n : Nat) : Int)) (hn12 : n ≤ 12) (hg : ∀ t : Nat, t < n → h 69 t = T 6 t ∧ h 70 t = T 7 t) (hd : 1 ≤ d) (ht : t < n) (hE : lsT T t = ((e : Nat) : Int)) (hL : ∀ m : Nat, m ≤ 1589 → h 74 m = (if cbT T m t = true then (1 : Int) else 0)) (kE : ∀ h' m, Fr [74] h h' → (∀ m : Nat, m ≤ 1589 → h' 74 m = (if cbT T m (t + 1) = true then (1 : Int) else 0)) → Aj γ mX5_findMinutes d 0 0 Post 58 [(2, vI m), (1, vI ((t : Nat) : Int)), (0, vA 63)] [] (mk h' τ)) :
    ∀ (f i : Nat) (h1 : Nat → Nat → Int), i ≤ (e + 1) → (e + 1) < i + f → Fr [74] h h1 → (T 6 t ≤ (i : Int)) → (∀ m : Nat, m ≤ 1589 → h1 74 m = (if cbT T m t = true ∨ (T 6 t ≤ (m : Int) ∧ m < i) then (1 : Int) else 0)) → Aj γ mX5_findMinutes d 0 0 Post 25 [(2, vI ((i : Nat) : Int)), (1, vI ((t : Nat) : Int)), (0, vA 63)] [] (mk h1 τ) := by
  intro f
  induction f with
  | zero => intro i h1  h1_ h2_; omega
  | succ f ih =>
    intro i h1  h1_ h2_ hF hlo iv
    have hls := lsT_rng hT t
    have h6 := (hT.2.2.2.2.2 t).2.2.2.2
    have hlq : lsT T t = T 6 t + T 7 t := rfl
    refine a_iload_n (j := 0) dX5_findMinutes_25 rfl rfl ?_
    refine a_aload_n (j := 2) dX5_findMinutes_26 rfl rfl (Nat.le_of_ble_eq_true rfl) ?_
    refine a_iload_n (j := 1) dX5_findMinutes_27 rfl rfl ?_
    refine b_callV (d' := d - 1) (mc' := 0) (ms' := 0) (mc1 := 0) (ms1 := 0) (st := [vI ((i : Nat) : Int)]) (b := 63) [vI ((t : Nat) : Int)] dX5_findMinutes_28 mwX5_lastMinute lkX5_152 (by decide) rfl rc_X5 rfl (Nat.le_of_ble_eq_true rfl) (by omega) rfl rfl (c_X5_lastMinute (v1 := (T 6 t)) (v2 := (T 7 t)) (by omega)  ((Fr_v hF (by decide)).trans ((congrArg (h 69) (show (Int.toNat ((t : Nat) : Int)) = t by omega)).trans (hg t (by omega)).1)) ((Fr_v hF (by decide)).trans ((congrArg (h 70) (show (Int.toNat ((t : Nat) : Int)) = t by omega)).trans (hg t (by omega)).2)) (show 0 ≤ ((t : Nat) : Int) ∧ ((t : Nat) : Int) ≤ 11 by omega) (show 0 ≤ (T 6 t) ∧ (T 6 t) ≤ 1559 by omega) (show 0 ≤ (T 7 t) ∧ (T 7 t) ≤ 30 by omega) ?_)
    show Aj γ mX5_findMinutes d 0 0 Post 31 [(2, vI ((i : Nat) : Int)), (1, vI ((t : Nat) : Int)), (0, vA 63)] [vI ((T 6 t) + (T 7 t)), vI ((i : Nat) : Int)] (mk h1 τ)
    refine a_icmp_gt (tgt := 58) dX5_findMinutes_31 (by decide) (fun c31_1 => ?_) (fun c31_1 => ?_)
    · refine kE _ _ hF (fun m hm => ?_)
      rw [iv m hm, cb_s]
      by_cases c1 : cbT T m t = true
      · rw [if_pos (Or.inl c1), c1, Bool.true_or, if_pos rfl]
      · by_cases c2 : T 6 t ≤ (m : Int) ∧ (m : Int) ≤ lsT T t
        · rw [if_pos (Or.inr ⟨c2.1, by omega⟩), decide_eq_true c2, Bool.or_true, if_pos rfl]
        · rw [if_neg (fun q => by rcases q with q | q; exact c1 q; exact c2 ⟨q.1, by omega⟩), decide_eq_false c2, Bool.or_false, if_neg c1]
    · refine a_iload_n (j := 0) dX5_findMinutes_34 rfl rfl ?_
      refine a_iconst dX5_findMinutes_35 ⟨by decide, by decide⟩ ?_
      refine a_sipush dX5_findMinutes_36 ⟨by decide, by decide, by decide⟩ ?_
      refine a_callS (d' := d - 1) (mc' := 0) (ms' := 0) (mc1 := 0) (ms1 := 0) (st := []) [vI ((i : Nat) : Int), vI 0, vI 1589] dX5_findMinutes_39 mwX8_within lkX5_137 rfl (Nat.le_of_ble_eq_true rfl) (by omega) rfl rfl (c_X8_within  (by omega)    (fun t39_2 => ?_) (fun t39_2 => ?_))
      · have t39_2 : 0 ≤ ((i : Nat) : Int) ∧ ((i : Nat) : Int) ≤ 1589 := t39_2
        show Aj γ mX5_findMinutes d 0 0 Post 42 [(2, vI ((i : Nat) : Int)), (1, vI ((t : Nat) : Int)), (0, vA 63)] [vI 1] (mk h1 τ)
        refine a_if_eq (tgt := 58) dX5_findMinutes_42 (by decide) (fun c => absurd c (by decide)) (fun _ => ?_)
        refine a_aload_n (j := 2) dX5_findMinutes_45 rfl rfl (Nat.le_of_ble_eq_true rfl) ?_
        refine b_getp (a := 63) (p := 74) dX5_findMinutes_46 fwX5_46 (by decide) rfl (by decide) rfl rfl ?_
        refine a_iload_n (j := 0) dX5_findMinutes_49 rfl rfl ?_
        refine a_iconst dX5_findMinutes_50 ⟨by decide, by decide⟩ ?_
        refine b_iastore (a := 74) i dX5_findMinutes_51 (by decide) rfl rfl (by omega) (sp_nil rfl _) ?_
        refine a_iinc (j := 0) (z' := ((i + 1 : Nat) : Int)) (lv' := [(2, vI ((i + 1 : Nat) : Int)), (1, vI ((t : Nat) : Int)), (0, vA 63)]) dX5_findMinutes_52 rfl (w_okN (by omega) (by omega) (by omega)) (by decide) rfl ?_
        refine a_goto (tgt := 25) dX5_findMinutes_55 (by decide) ?_
        refine a_lv (lv' := [(2, vI (((i + 1) : Nat) : Int)), (1, vI ((t : Nat) : Int)), (0, vA 63)]) (by intro q hq; simp only [List.mem_cons, List.not_mem_nil, or_false] at hq ⊢; rcases hq with rfl | rfl | rfl <;> simp) (ih (i + 1) (up2 h1 74 i 1)  (by omega) (by omega) (Fr_u (by decide) (Fr_m (by decide) hF)) (by omega) (fun m hm => by
          by_cases c : m = i
          · subst c; rw [if_pos (Or.inr ⟨by omega, by omega⟩)]; exact up2_at
          · rw [up2_ne (by omega), iv m hm]
            by_cases c1 : cbT T m t = true ∨ (T 6 t ≤ (m : Int) ∧ m < i)
            · rw [if_pos c1, if_pos (by rcases c1 with c1 | c1
                                        · exact Or.inl c1
                                        · exact Or.inr ⟨c1.1, by omega⟩)]
            · rw [if_neg c1, if_neg (fun c2 => c1 (by rcases c2 with c2 | c2
                                                      · exact Or.inl c2
                                                      · exact Or.inr ⟨c2.1, by omega⟩))]))
      · exact absurd (show ¬ (0 ≤ ((i : Nat) : Int) ∧ ((i : Nat) : Int) ≤ 1589) from t39_2) (by omega)
set_option maxHeartbeats 8000000 in
theorem l_fmB {γ : GT} {d : Nat} {n : Nat} {T : Nat → Nat → Int} {h : Nat → Nat → Int} {τ : List AC} {Post : Option AV → List AC → Prop} (hT : tOK T) (hT2 : T 0 2 = ((n : Nat) : Int)) (hn3 : h 63 3 = ((n : Nat) : Int)) (hn12 : n ≤ 12) (hg : ∀ t : Nat, t < n → h 69 t = T 6 t ∧ h 70 t = T 7 t) (hd : 1 ≤ d) (kE : ∀ h' m, Fr [74] h h' → (∀ m : Nat, m ≤ 1589 → h' 74 m = (if cbT T m n = true then (1 : Int) else 0)) → Aj γ mX5_findMinutes d 0 0 Post 64 [(1, vI m), (0, vA 63)] [] (mk h' τ)) :
    ∀ (f i : Nat) (h1 : Nat → Nat → Int), i ≤ n → n < i + f → Fr [74] h h1 → (∀ m : Nat, m ≤ 1589 → h1 74 m = (if cbT T m i = true then (1 : Int) else 0)) → Aj γ mX5_findMinutes d 0 0 Post 10 [(1, vI ((i : Nat) : Int)), (0, vA 63)] [] (mk h1 τ) := by
  intro f
  induction f with
  | zero => intro i h1  h1_ h2_; omega
  | succ f ih =>
    intro i h1  h1_ h2_ hF iv
    have hls := lsT_rng hT i
    have h6 := (hT.2.2.2.2.2 i).2.2.2.2
    refine a_iload_n (j := 0) dX5_findMinutes_10 rfl rfl ?_
    refine a_aload_n (j := 1) dX5_findMinutes_11 rfl rfl (Nat.le_of_ble_eq_true rfl) ?_
    refine b_get (a := 63) (z := ((n : Nat) : Int)) (t := 0) dX5_findMinutes_12 fwX5_73 (by decide) rfl (by decide) rfl rfl ((Fr_v hF (by decide)).trans hn3) ?_
    refine a_icmp_ge (tgt := 64) dX5_findMinutes_15 (by decide) (fun c15_1 => ?_) (fun c15_1 => ?_)
    · obtain rfl : i = n := (by omega)
      exact kE _ _ hF iv
    · refine a_aload_n (j := 1) dX5_findMinutes_18 rfl rfl (Nat.le_of_ble_eq_true rfl) ?_
      refine b_getp (a := 63) (p := 69) dX5_findMinutes_19 fwX5_31 (by decide) rfl (by decide) rfl rfl ?_
      refine a_iload_n (j := 0) dX5_findMinutes_22 rfl rfl ?_
      refine b_iaload (a := 69) (z := T 6 i) i dX5_findMinutes_23 (by decide) rfl rfl (by omega) (sp_nil rfl _) ((Fr_v hF (by decide)).trans (hg i (by omega)).1) (fun r23_2 => ?_)
      refine a_istore_n (lv' := [(2, vI (T 6 i)), (1, vI ((i : Nat) : Int)), (0, vA 63)]) dX5_findMinutes_24 rfl (by decide) rfl ?_
      obtain ⟨g, hgg⟩ : ∃ g : Nat, T 6 i = (g : Int) := ⟨Int.toNat (T 6 i), by omega⟩
      obtain ⟨e, hee⟩ : ∃ e : Nat, lsT T i = (e : Int) := ⟨Int.toNat (lsT T i), by omega⟩
      rw [hgg]
      refine a_lv (lv' := [(2, vI ((g : Nat) : Int)), (1, vI ((i : Nat) : Int)), (0, vA 63)]) (by intro q hq; simp only [List.mem_cons, List.not_mem_nil, or_false] at hq ⊢; rcases hq with rfl | rfl | rfl <;> simp) (l_fmA (h := h1) (t := i) (e := e) hT hT2 ((Fr_v hF (by decide)).trans hn3) hn12 (fun t ht => by rw [Fr_v hF (by decide), Fr_v hF (by decide)]; exact hg t ht) hd (by omega) hee iv ?_ (e + 2) g h1 (by omega) (by omega) Fr_r (by omega) (fun m hm => ?_))
      · intro h9 m9 hG j1
        refine a_iinc (j := 1) (z' := ((i + 1 : Nat) : Int)) (lv' := [(1, vI ((i + 1 : Nat) : Int)), (2, vI m9), (0, vA 63)]) dX5_findMinutes_58 rfl (w_okN (by omega) (by omega) (by omega)) (by decide) rfl ?_
        refine a_goto (tgt := 10) dX5_findMinutes_61 (by decide) ?_
        refine a_lv (lv' := [(1, vI (((i + 1) : Nat) : Int)), (0, vA 63)]) (by intro q hq; simp only [List.mem_cons, List.not_mem_nil, or_false] at hq ⊢; rcases hq with rfl | rfl <;> simp) (ih (i + 1) h9  (by omega) (by omega) (Fr_t (Fr_m (by decide) hF) (Fr_m (by decide) hG)) j1)
      · rw [iv m hm]
        by_cases c1 : cbT T m i = true
        · rw [if_pos c1, if_pos (Or.inl c1)]
        · rw [if_neg c1, if_neg (fun q => by rcases q with q | q; exact c1 q; omega)]
set_option maxHeartbeats 8000000 in
theorem l_fmC {γ : GT} {d : Nat} {n : Nat} {T : Nat → Nat → Int} {h : Nat → Nat → Int} {τ : List AC} {Post : Option AV → List AC → Prop} (hT : tOK T) (hT2 : T 0 2 = ((n : Nat) : Int)) (hn12 : n ≤ 12) (hd : 1 ≤ d) (kE : ∀ h', Fr [63, 73, 74] h h' → (∀ k, k ≠ 13 → h' 63 k = h 63 k) → TTm h' T → Post none (mk h' τ)) :
    ∀ (f i : Nat) (h1 : Nat → Nat → Int), i ≤ 1590 → 1590 < i + f → Fr [63, 73, 74] h h1 → (h1 63 13 = pkT T n i) → (∀ m : Nat, m ≤ 1589 → h1 74 m = plS T n i m) → (∀ p : Nat, 1 ≤ p → (p : Int) ≤ pkT T n i → 0 ≤ h1 73 p ∧ h1 73 p ≤ 1589 ∧ cbT T (h1 73 p) n = true ∧ plT T (h1 73 p) = (p : Int)) → (∀ k, k ≠ 13 → h1 63 k = h 63 k) → Aj γ mX5_findMinutes d 0 0 Post 73 [(1, vI (1589 - ((i : Nat) : Int))), (0, vA 63)] [] (mk h1 τ) := by
  intro f
  induction f with
  | zero => intro i h1  h1_ h2_; omega
  | succ f ih =>
    intro i h1  h1_ h2_ hF im ip ia iq
    refine a_iload_n (j := 0) dX5_findMinutes_73 rfl rfl ?_
    refine a_if_lt (tgt := 133) dX5_findMinutes_74 (by decide) (fun c74_1 => ?_) (fun c74_1 => ?_)
    · exact a_vret dX5_findMinutes_133 rfl (by
        obtain rfl : i = 1590 := (by omega)
        refine kE _ hF iq ⟨?_, ?_, ?_⟩
        · rw [im, pl_pk hT2]; rfl
        · intro m hm
          rw [ip m hm, pl_pk hT2]
          unfold plS
          rw [if_pos (by omega), show Int.toNat (1590 - (m : Int)) = 1590 - m by omega]
        · intro p h1p h2p
          rw [show Int.toNat (T 0 2) = n by omega]
          exact ia p h1p (by rw [pl_pk hT2] at h2p; exact h2p))
    · have hnn := pk_nn T n i
      have hb2 := plS_b (T := T) (n := n) (i := i) (m := 1589 - i) (by omega)
      obtain ⟨bb, hbb⟩ : ∃ bb : Int, plS T n i (1589 - i) = bb := ⟨_, rfl⟩
      have hb1 : h1 74 (1589 - i) = bb := (ip _ (by omega)).trans hbb
      rw [hbb, show ((1589 - i : Nat) : Int) = 1589 - (i : Int) by omega] at hb2
      refine a_aload_n (j := 1) dX5_findMinutes_77 rfl rfl (Nat.le_of_ble_eq_true rfl) ?_
      refine b_getp (a := 63) (p := 74) dX5_findMinutes_78 fwX5_46 (by decide) rfl (by decide) rfl rfl ?_
      refine a_iload_n (j := 0) dX5_findMinutes_81 rfl rfl ?_
      refine b_iaload (a := 74) (z := bb) (1589 - i) dX5_findMinutes_82 (by decide) rfl (by omega) (by omega) (sp_nil rfl _) hb1 (fun r82_2 => ?_)
      refine a_iconst dX5_findMinutes_83 ⟨by decide, by decide⟩ ?_
      refine a_icmp_ne (tgt := 117) dX5_findMinutes_84 (by decide) (fun c84_3 => ?_) (fun c84_3 => ?_)
      · refine a_aload_n (j := 1) dX5_findMinutes_117 rfl rfl (Nat.le_of_ble_eq_true rfl) ?_
        refine b_getp (a := 63) (p := 74) dX5_findMinutes_118 fwX5_46 (by decide) rfl (by decide) rfl rfl ?_
        refine a_iload_n (j := 0) dX5_findMinutes_121 rfl rfl ?_
        refine a_aload_n (j := 1) dX5_findMinutes_122 rfl rfl (Nat.le_of_ble_eq_true rfl) ?_
        refine b_get (a := 63) (z := pkT T n i) (t := 0) dX5_findMinutes_123 fwX5_156 (by decide) rfl (by decide) rfl rfl im ?_
        refine b_iastore (a := 74) (1589 - i) dX5_findMinutes_126 (by decide) rfl (by omega) (by omega) (sp_nil rfl _) ?_
        refine a_iinc (j := 0) (z' := ((1589 - ((i : Nat) : Int)) - 1)) (lv' := [(1, vI ((1589 - ((i : Nat) : Int)) - 1)), (0, vA 63)]) dX5_findMinutes_127 rfl (w_ok (by omega) (by omega)) (by decide) rfl ?_
        refine a_goto (tgt := 73) dX5_findMinutes_130 (by decide) ?_
        rw [show (1589 - ((i : Nat) : Int)) - 1 = 1589 - ((i + 1 : Nat) : Int) by omega]
        have hcb : ¬ cbT T (1589 - (i : Int)) n = true := by rcases hb2 with q | q; omega; exact q.2
        have hs : pkT T n (i + 1) = pkT T n i + (if cbT T (1589 - (i : Int)) n = true then 1 else 0) := rfl
        rw [if_neg hcb] at hs
        refine a_lv (lv' := [(1, vI (1589 - (((i + 1) : Nat) : Int))), (0, vA 63)]) (by intro q hq; simp only [List.mem_cons, List.not_mem_nil, or_false] at hq ⊢; rcases hq with rfl | rfl <;> simp) (ih (i + 1) (up2 h1 74 (1589 - i) (pkT T n i))  (by omega) (by omega) (Fr_u (by decide) (Fr_m (by decide) hF)) (by rw [up2_ne (by omega), im]; omega) (fun m hm => by
          by_cases c : (m : Int) = 1589 - (i : Int)
          · rw [plS_at c, show m = 1589 - i by omega, up2_at]; omega
          · rw [plS_ne c, up2_ne (by omega)]; exact ip m hm) (fun p h1p h2p => by
          rw [up2_ne (by omega)]; exact ia p h1p (by omega)) (fun k hk => by rw [up2_ne (by omega)]; exact iq k hk))
      · have hcb : cbT T (1589 - (i : Int)) n = true := by rcases hb2 with q | q; exact q.2; omega
        have hs : pkT T n (i + 1) = pkT T n i + (if cbT T (1589 - (i : Int)) n = true then 1 else 0) := rfl
        rw [if_pos hcb] at hs
        have hpk := pkk_le hT n (i + 1)
        refine a_aload_n (j := 1) dX5_findMinutes_87 rfl rfl (Nat.le_of_ble_eq_true rfl) ?_
        refine b_get (a := 63) (z := pkT T n i) (t := 0) dX5_findMinutes_88 fwX5_156 (by decide) rfl (by decide) rfl rfl im ?_
        refine a_sipush dX5_findMinutes_91 ⟨by decide, by decide, by decide⟩ ?_
        refine a_icmp_ge (tgt := 117) dX5_findMinutes_94 (by decide) (fun c94_4 => absurd c94_4 (by omega)) (fun c94_4 => ?_)
        refine a_aload_n (j := 1) dX5_findMinutes_97 rfl rfl (Nat.le_of_ble_eq_true rfl) ?_
        refine a_dup dX5_findMinutes_98 (fun h => nomatch h) ?_
        refine b_get (a := 63) (z := pkT T n i) (t := 0) dX5_findMinutes_99 fwX5_156 (by decide) rfl (by decide) rfl rfl im ?_
        refine a_iconst dX5_findMinutes_102 ⟨by decide, by decide⟩ ?_
        refine a_iadd (z := ((pkT T n i) + 1)) dX5_findMinutes_103 (w_ok (by omega) (by omega)) ?_
        refine b_put (a := 63) (v := vI ((pkT T n i) + 1)) dX5_findMinutes_104 pwX5_156 (fun h => nomatch h) (by decide) rfl (by decide) rfl rfl (fit_int _) ?_
        show Aj γ mX5_findMinutes d 0 0 Post 107 [(1, vI (1589 - ((i : Nat) : Int))), (0, vA 63)] [] (mk (up2 h1 63 13 ((pkT T n i) + 1)) τ)
        refine a_aload_n (j := 1) dX5_findMinutes_107 rfl rfl (Nat.le_of_ble_eq_true rfl) ?_
        refine b_getp (a := 63) (p := 73) dX5_findMinutes_108 fwX5_43 (by decide) rfl (by decide) rfl rfl ?_
        refine a_aload_n (j := 1) dX5_findMinutes_111 rfl rfl (Nat.le_of_ble_eq_true rfl) ?_
        refine b_get (a := 63) (z := ((pkT T n i) + 1)) (t := 0) dX5_findMinutes_112 fwX5_156 (by decide) rfl (by decide) rfl rfl up2_at ?_
        refine a_iload_n (j := 0) dX5_findMinutes_115 rfl rfl ?_
        refine b_iastore (a := 73) (Int.toNat ((pkT T n i) + 1)) dX5_findMinutes_116 (by decide) rfl (by omega) (by omega) (sp_nil rfl _) ?_
        refine a_aload_n (j := 1) dX5_findMinutes_117 rfl rfl (Nat.le_of_ble_eq_true rfl) ?_
        refine b_getp (a := 63) (p := 74) dX5_findMinutes_118 fwX5_46 (by decide) rfl (by decide) rfl rfl ?_
        refine a_iload_n (j := 0) dX5_findMinutes_121 rfl rfl ?_
        refine a_aload_n (j := 1) dX5_findMinutes_122 rfl rfl (Nat.le_of_ble_eq_true rfl) ?_
        refine b_get (a := 63) (z := ((pkT T n i) + 1)) (t := 0) dX5_findMinutes_123 fwX5_156 (by decide) rfl (by decide) rfl rfl ((up2_ne (by omega)).trans up2_at) ?_
        refine b_iastore (a := 74) (1589 - i) dX5_findMinutes_126 (by decide) rfl (by omega) (by omega) (sp_nil rfl _) ?_
        refine a_iinc (j := 0) (z' := ((1589 - ((i : Nat) : Int)) - 1)) (lv' := [(1, vI ((1589 - ((i : Nat) : Int)) - 1)), (0, vA 63)]) dX5_findMinutes_127 rfl (w_ok (by omega) (by omega)) (by decide) rfl ?_
        refine a_goto (tgt := 73) dX5_findMinutes_130 (by decide) ?_
        rw [show (1589 - ((i : Nat) : Int)) - 1 = 1589 - ((i + 1 : Nat) : Int) by omega]
        refine a_lv (lv' := [(1, vI (1589 - (((i + 1) : Nat) : Int))), (0, vA 63)]) (by intro q hq; simp only [List.mem_cons, List.not_mem_nil, or_false] at hq ⊢; rcases hq with rfl | rfl <;> simp) (ih (i + 1) (up2 (up2 (up2 h1 63 13 ((pkT T n i) + 1)) 73 (Int.toNat ((pkT T n i) + 1)) (1589 - ((i : Nat) : Int))) 74 (1589 - i) ((pkT T n i) + 1))  (by omega) (by omega) (Fr_u (by decide) (Fr_u (by decide) (Fr_u (by decide) (Fr_m (by decide) hF)))) (by rw [up2_ne (by omega), up2_ne (by omega), up2_at]; omega) (fun m hm => by
          by_cases c : (m : Int) = 1589 - (i : Int)
          · rw [plS_at c, show m = 1589 - i by omega, up2_at]; omega
          · rw [plS_ne c, up2_ne (by omega), up2_ne (by omega), up2_ne (by omega)]; exact ip m hm) (fun p h1p h2p => by
          by_cases c : (p : Int) = pkT T n (i + 1)
          · rw [show p = Int.toNat (pkT T n i + 1) by omega, up2_ne (by omega), up2_at]
            refine ⟨by omega, by omega, hcb, ?_⟩
            rw [pl_pk hT2, show Int.toNat (1590 - (1589 - ((i : Nat) : Int))) = i + 1 by omega]; omega
          · rw [up2_ne (by omega), up2_ne (by omega), up2_ne (by omega)]; exact ia p h1p (by omega)) (fun k hk => by rw [up2_ne (by omega), up2_ne (by omega), up2_ne (by omega)]; exact iq k hk))
theorem c_X5_findMinutes {γ : GT} {d : Nat} {n : Nat} {T : Nat → Nat → Int} {h : Nat → Nat → Int} {τ : List AC} {Post : Option AV → List AC → Prop} (hT : tOK T) (hT2 : T 0 2 = ((n : Nat) : Int)) (hn3 : h 63 3 = ((n : Nat) : Int)) (hn12 : n ≤ 12) (hg : ∀ t : Nat, t < n → h 69 t = T 6 t ∧ h 70 t = T 7 t) (hd : 1 ≤ d) (kQ : ∀ h', Fr [63, 73, 74] h h' → (∀ k, k ≠ 13 → h' 63 k = h 63 k) → TTm h' T → Post none (mk h' τ)) : Cj γ mX5_findMinutes d 0 0 [vA 63] (mk h τ) Post := by
  refine c_of (by decide) (Nat.le_of_ble_eq_true rfl) ?_
  show Aj γ mX5_findMinutes d 0 0 Post 0 [(0, vA 63)] [] (mk h τ)
  refine a_aload_n (j := 0) dX5_findMinutes_0 rfl rfl (Nat.le_of_ble_eq_true rfl) ?_
  refine b_getp (a := 63) (p := 74) dX5_findMinutes_1 fwX5_46 (by decide) rfl (by decide) rfl rfl ?_
  refine a_iconst dX5_findMinutes_4 ⟨by decide, by decide⟩ ?_
  refine a_callS (d' := d - 1) (mc' := 0) (ms' := 0) (mc1 := 0) (ms1 := 0) (st := []) [vA 74, vI 0] dX5_findMinutes_5 mwJ7_fill_53178 lkX5_146 rfl (Nat.le_of_ble_eq_true rfl) (by omega) rfl rfl (c_fill (f := (h 74)) (by omega) (by decide) rfl (fun _ => (sp_nil rfl _)) (by decide) rfl ?_)
  show Aj γ mX5_findMinutes d 0 0 Post 8 [(0, vA 63)] [] (mk (upR h 74 (fillR 0 1590 (h 74))) τ)
  refine a_iconst dX5_findMinutes_8 ⟨by decide, by decide⟩ ?_
  refine a_istore_n (lv' := [(1, vI 0), (0, vA 63)]) dX5_findMinutes_9 rfl (by decide) rfl ?_
  generalize hHH : (upR h 74 (fillR 0 1590 (h 74))) = H
  have qF : Fr [74] h H := by rw [← hHH]; exact Fr_R (by decide) Fr_r
  have q74 : ∀ m : Nat, m ≤ 1589 → H 74 m = 0 := fun m hm => by rw [← hHH, upR_v]; unfold fillR; rw [if_pos (by omega)]
  refine a_lv (lv' := [(1, vI ((0 : Nat) : Int)), (0, vA 63)]) (by intro q hq; simp only [List.mem_cons, List.not_mem_nil, or_false] at hq ⊢; rcases hq with rfl | rfl <;> simp) (l_fmB (h := H) (n := n) (T := T) hT hT2 ((Fr_v qF (by decide)).trans hn3) hn12 (fun t ht => by rw [Fr_v qF (by decide), Fr_v qF (by decide)]; exact hg t ht) hd ?_ (n + 1) 0 H (by omega) (by omega) Fr_r (fun m hm => (q74 m hm).trans (if_neg (fun q => nomatch q)).symm))
  intro h9 m9 hG j1
  refine a_aload_n (j := 1) dX5_findMinutes_64 rfl rfl (Nat.le_of_ble_eq_true rfl) ?_
  refine a_iconst dX5_findMinutes_65 ⟨by decide, by decide⟩ ?_
  refine b_put (a := 63) (v := vI 0) dX5_findMinutes_66 pwX5_156 (fun h => nomatch h) (by decide) rfl (by decide) rfl rfl (fit_int _) ?_
  show Aj γ mX5_findMinutes d 0 0 Post 69 [(1, vI m9), (0, vA 63)] [] (mk (up2 h9 63 13 0) τ)
  refine a_sipush dX5_findMinutes_69 ⟨by decide, by decide, by decide⟩ ?_
  refine a_istore_n (lv' := [(1, vI 1589), (0, vA 63)]) dX5_findMinutes_72 rfl (by decide) rfl ?_
  refine a_lv (lv' := [(1, vI (1589 - ((0 : Nat) : Int))), (0, vA 63)]) (by intro q hq; simp only [List.mem_cons, List.not_mem_nil, or_false] at hq ⊢; rcases hq with rfl | rfl <;> simp) (l_fmC (h := (up2 h9 63 13 0)) (n := n) (T := T) hT hT2 hn12 hd (fun h' hF hk hm => kQ h' (Fr_t (Fr_t (Fr_m (by decide) qF) (Fr_m (by decide) hG)) (Fr_t (Fr_u (by decide) Fr_r) hF)) (fun k hk' => (hk k hk').trans ((up2_ne (by omega)).trans ((Fr_v hG (by decide)).trans (Fr_v qF (by decide))))) hm) 1591 0 (up2 h9 63 13 0) (by omega) (by omega) Fr_r up2_at (fun m hm => ?_) (fun p h1p h2p => ?_) (fun _ _ => rfl))
  · rw [up2_ne (by omega), j1 m hm]
    unfold plS
    rw [if_neg (show ¬ 1589 - ((0 : Nat) : Int) < (m : Int) by omega)]
  · have e0 : pkT T n 0 = 0 := rfl
    omega
theorem WR_fr {h h' : Nat → Nat → Int} {τ : List AC} {w : Nat} {N : Nat → Int} (hw : isWd w) (hF : Fr [63, 64, 65, 66, 67, 68, 69, 70, 71, 72, 73, 74, 75, 76, 77, 78, 79, 80, 81, 82, 83] h h') (hR : WR h τ w N) (h5 : N 5 ≤ 12 := by omega) : WR h' τ w N := by
  have hw_ : w = 1 ∨ w = 32 := hw
  obtain ⟨r1, r2, r3, r4, r5, r6⟩ := hR
  have q : ∀ c, c < 63 → h' c = h c := fun c hc => hF c (by simp only [List.mem_cons, List.not_mem_nil, or_false]; omega)
  refine ⟨?_, ?_, ?_, ?_, ?_, ?_⟩
  · unfold scR; rw [q w (by omega)]; exact r1
  · rw [q (w + 1) (by omega)]; exact r2
  · intro t ht
    exact trW_fr (q _ (by omega)) (q _ (by omega)) (r3 t ht)
  · exact txR_fr (q _ (by omega)) r4
  · rw [q (w + 4) (by omega)]; exact r5
  · rw [q (w + 5) (by omega), q (w + 6) (by omega)]; exact r6
theorem c_X5_refresh {γ : GT} {d : Nat} {w : Nat} {N : Nat → Int} {h : Nat → Nat → Int} {τ : List AC} {Post : Option AV → List AC → Prop} (hd : 4 ≤ d) (hw : isWd w) (hR : WR h τ w N) (hv : NV N) (hTT : h 63 0 = h w 0 → TT h (tt N)) (kQ : ∀ h', Fr [63, 64, 65, 66, 67, 68, 69, 70, 71, 72, 73, 74, 75] h h' → h' 63 0 = h w 0 → h' 63 17 = h 63 17 → h' 63 18 = h 63 18 → TT h' (tt N) → Post none (mk h' τ)) : Cj γ mX5_refresh d 0 0 [vA 63, vA w] (mk h τ) Post := by
  have hw_ : w = 1 ∨ w = 32 := hw
  have h5_ := hv.1.2.2.2.2
  refine c_of (by decide) (Nat.le_of_ble_eq_true rfl) ?_
  show Aj γ mX5_refresh d 0 0 Post 0 [(0, vA 63), (1, vA w)] [] (mk h τ)
  refine a_aload_n (j := 0) dX5_refresh_0 rfl rfl (Nat.le_of_ble_eq_true rfl) ?_
  refine b_get (a := 63) (z := h 63 0) (t := 0) dX5_refresh_1 fwX5_9 (by decide) rfl (by decide) rfl rfl rfl ?_
  refine a_aload_n (j := 1) dX5_refresh_4 rfl rfl (Nat.le_of_ble_eq_true rfl) ?_
  refine b_get (a := w) (z := h w 0) (t := 0) dX5_refresh_5 fwX5_59 (by rcases hw with rfl | rfl <;> decide) (by rcases hw with rfl | rfl <;> rfl) (by decide) (by rcases hw with rfl | rfl <;> rfl) rfl rfl ?_
  refine a_icmp_ne (tgt := 12) dX5_refresh_8 (by decide) (fun c8_1 => ?_) (fun c8_1 => ?_)
  · refine a_aload_n (j := 0) dX5_refresh_12 rfl rfl (Nat.le_of_ble_eq_true rfl) ?_
    refine a_aload_n (j := 1) dX5_refresh_13 rfl rfl (Nat.le_of_ble_eq_true rfl) ?_
    refine b_get (a := w) (z := h w 0) (t := 0) dX5_refresh_14 fwX5_59 (by rcases hw with rfl | rfl <;> decide) (by rcases hw with rfl | rfl <;> rfl) (by decide) (by rcases hw with rfl | rfl <;> rfl) rfl rfl ?_
    refine b_put (a := 63) (v := vI (h w 0)) dX5_refresh_17 pwX5_9 (fun h => nomatch h) (by decide) rfl (by decide) rfl rfl (fit_int _) ?_
    show Aj γ mX5_refresh d 0 0 Post 20 [(0, vA 63), (1, vA w)] [] (mk (up2 h 63 0 (h w 0)) τ)
    refine a_aload_n (j := 0) dX5_refresh_20 rfl rfl (Nat.le_of_ble_eq_true rfl) ?_
    refine a_aload_n (j := 1) dX5_refresh_21 rfl rfl (Nat.le_of_ble_eq_true rfl) ?_
    refine b_get (a := w) (z := N 2) (t := 0) dX5_refresh_22 fwX5_62 (by rcases hw with rfl | rfl <;> decide) (by rcases hw with rfl | rfl <;> rfl) (by decide) (by rcases hw with rfl | rfl <;> rfl) rfl ((up2_ne (by omega)).trans hR.1.2.2.2.2.1) ?_
    refine b_put (a := 63) (v := vI (N 2)) dX5_refresh_25 pwX5_65 (fun h => nomatch h) (by decide) rfl (by decide) rfl rfl (fit_int _) ?_
    show Aj γ mX5_refresh d 0 0 Post 28 [(0, vA 63), (1, vA w)] [] (mk (up2 (up2 h 63 0 (h w 0)) 63 1 (N 2)) τ)
    refine a_aload_n (j := 0) dX5_refresh_28 rfl rfl (Nat.le_of_ble_eq_true rfl) ?_
    refine a_aload_n (j := 1) dX5_refresh_29 rfl rfl (Nat.le_of_ble_eq_true rfl) ?_
    refine b_get (a := w) (z := N 3) (t := 0) dX5_refresh_30 fwX5_66 (by rcases hw with rfl | rfl <;> decide) (by rcases hw with rfl | rfl <;> rfl) (by decide) (by rcases hw with rfl | rfl <;> rfl) rfl ((up2_ne (by omega)).trans ((up2_ne (by omega)).trans hR.1.2.2.2.2.2.1)) ?_
    refine b_put (a := 63) (v := vI (N 3)) dX5_refresh_33 pwX5_69 (fun h => nomatch h) (by decide) rfl (by decide) rfl rfl (fit_int _) ?_
    show Aj γ mX5_refresh d 0 0 Post 36 [(0, vA 63), (1, vA w)] [] (mk (up2 (up2 (up2 h 63 0 (h w 0)) 63 1 (N 2)) 63 2 (N 3)) τ)
    refine a_aload_n (j := 0) dX5_refresh_36 rfl rfl (Nat.le_of_ble_eq_true rfl) ?_
    refine a_aload_n (j := 1) dX5_refresh_37 rfl rfl (Nat.le_of_ble_eq_true rfl) ?_
    refine b_get (a := w) (z := N 5) (t := 0) dX5_refresh_38 fwX5_70 (by rcases hw with rfl | rfl <;> decide) (by rcases hw with rfl | rfl <;> rfl) (by decide) (by rcases hw with rfl | rfl <;> rfl) rfl ((up2_ne (by omega)).trans ((up2_ne (by omega)).trans ((up2_ne (by omega)).trans hR.1.2.1))) ?_
    refine b_put (a := 63) (v := vI (N 5)) dX5_refresh_41 pwX5_73 (fun h => nomatch h) (by decide) rfl (by decide) rfl rfl (fit_int _) ?_
    show Aj γ mX5_refresh d 0 0 Post 44 [(0, vA 63), (1, vA w)] [] (mk (up2 (up2 (up2 (up2 h 63 0 (h w 0)) 63 1 (N 2)) 63 2 (N 3)) 63 3 (N 5)) τ)
    refine a_aload_n (j := 0) dX5_refresh_44 rfl rfl (Nat.le_of_ble_eq_true rfl) ?_
    refine a_aload_n (j := 1) dX5_refresh_45 rfl rfl (Nat.le_of_ble_eq_true rfl) ?_
    generalize hHH : (up2 (up2 (up2 (up2 h 63 0 (h w 0)) 63 1 (N 2)) 63 2 (N 3)) 63 3 (N 5)) = H
    have qF : Fr [63] h H := by rw [← hHH]; exact Fr_u (by decide) (Fr_u (by decide) (Fr_u (by decide) (Fr_u (by decide) Fr_r)))
    have q0 : H 63 0 = h w 0 := by rw [← hHH, up2_ne (by omega), up2_ne (by omega), up2_ne (by omega), up2_at]
    have q1 : H 63 1 = N 2 := by rw [← hHH, up2_ne (by omega), up2_ne (by omega), up2_at]
    have q2 : H 63 2 = N 3 := by rw [← hHH, up2_ne (by omega), up2_at]
    have q3 : H 63 3 = N 5 := by rw [← hHH, up2_at]
    have qk : ∀ k, 4 ≤ k → H 63 k = h 63 k := fun k hk => by rw [← hHH, up2_ne (by omega), up2_ne (by omega), up2_ne (by omega), up2_ne (by omega)]
    have hR1 : WR H τ w N := WR_fr hw (Fr_m (by decide) qF) hR
    refine b_callV (d' := d - 1) (mc' := 0) (ms' := 0) (mc1 := 0) (ms1 := 0) (st := []) (b := 63) [vA w] dX5_refresh_46 mwX5_readWalks lkX5_74 (by decide) rfl rc_X5 rfl (Nat.le_of_ble_eq_true rfl) (by omega) rfl rfl (c_X5_readWalks (N := N) (by omega) hw hR1 hv (fun h7 hF7 j7 => ?_))
    show Aj γ mX5_refresh d 0 0 Post 49 [(0, vA 63), (1, vA w)] [] (mk h7 τ)
    refine a_aload_n (j := 0) dX5_refresh_49 rfl rfl (Nat.le_of_ble_eq_true rfl) ?_
    refine a_aload_n (j := 1) dX5_refresh_50 rfl rfl (Nat.le_of_ble_eq_true rfl) ?_
    have hR2 : WR h7 τ w N := WR_fr hw (Fr_m (by decide) hF7) hR1
    refine b_callV (d' := d - 1) (mc' := 0) (ms' := 0) (mc1 := 0) (ms1 := 0) (st := []) (b := 63) [vA w] dX5_refresh_51 mwX5_readTrains lkX5_78 (by decide) rfl rc_X5 rfl (Nat.le_of_ble_eq_true rfl) (by omega) rfl rfl (c_X5_readTrains (N := N) (by omega) hw hR2 hv ((Fr_v hF7 (by decide)).trans q3) (fun h8 hF8 j8 k8 => ?_))
    show Aj γ mX5_refresh d 0 0 Post 54 [(0, vA 63), (1, vA w)] [] (mk h8 τ)
    refine a_aload_n (j := 0) dX5_refresh_54 rfl rfl (Nat.le_of_ble_eq_true rfl) ?_
    have hs5 := hv.1.2.2.2.2
    obtain ⟨n5, hn5⟩ : ∃ n5 : Nat, N 5 = (n5 : Int) := ⟨Int.toNat (N 5), by omega⟩
    refine b_callV (d' := d - 1) (mc' := 0) (ms' := 0) (mc1 := 0) (ms1 := 0) (st := []) (b := 63) [] dX5_refresh_55 mwX5_findMinutes lkX5_81 (by decide) rfl rc_X5 rfl (Nat.le_of_ble_eq_true rfl) (by omega) rfl rfl (c_X5_findMinutes (n := n5) (T := tt N) (tt_OK hv) hn5 (((Fr_v hF8 (by decide)).trans ((Fr_v hF7 (by decide)).trans q3)).trans hn5) (by omega) (fun t ht => ⟨(j8 t (by omega)).2.2.2.2.1.trans (if_pos (by omega)).symm, (j8 t (by omega)).2.2.2.2.2.trans (if_pos (by omega)).symm⟩) (by omega) (fun h9 hF9 j9 k9 => ?_))
    show Aj γ mX5_refresh d 0 0 Post 58 [(0, vA 63), (1, vA w)] [] (mk h9 τ)
    exact a_vret dX5_refresh_58 rfl (by
      have e63 : ∀ k, k ≠ 13 → h9 63 k = H 63 k := fun k hk => (j9 k hk).trans ((Fr_v hF8 (by decide)).trans (Fr_v hF7 (by decide)))
      refine kQ h9 ?_ ((e63 0 (by decide)).trans q0) ((e63 17 (by decide)).trans (qk 17 (by decide))) ((e63 18 (by decide)).trans (qk 18 (by decide))) ?_
      · exact Fr_t (Fr_t (Fr_t (Fr_m (by decide) qF) (Fr_m (by decide) hF7)) (Fr_m (by decide) hF8)) (Fr_m (by decide) hF9)
      · refine ⟨⟨(e63 1 (by decide)).trans q1, (e63 2 (by decide)).trans q2, (e63 3 (by decide)).trans q3⟩, fun s hs => ?_, fun t ht => ?_, k9⟩
        · have hs : (s : Int) < N 4 := hs
          rw [Fr_v hF9 (by decide), Fr_v hF8 (by decide), j7 s hs]
          exact (if_pos hs).symm
        · have ht : (t : Int) < N 5 := ht
          have a8 := j8 t ht
          rw [Fr_v hF9 (by decide), Fr_v hF9 (by decide), Fr_v hF9 (by decide), Fr_v hF9 (by decide), Fr_v hF9 (by decide), Fr_v hF9 (by decide)]
          refine ⟨a8.1.trans (if_pos ht).symm, a8.2.1.trans (if_pos ht).symm, a8.2.2.1.trans (if_pos ht).symm, a8.2.2.2.1.trans (if_pos ht).symm, a8.2.2.2.2.1.trans (if_pos ht).symm, a8.2.2.2.2.2.trans (if_pos ht).symm, fun s hs => ?_⟩
          have b8 := k8 t ht s hs
          rw [Fr_v hF9 (by decide), Fr_v hF9 (by decide), tt8 hs ht, tt9 hs ht]
          exact b8)
  · exact a_vret dX5_refresh_11 rfl (kQ h Fr_r (by omega) rfl rfl (hTT (by omega)))
