theorem KY_eq {B : Nat → Int} {n K K' : Nat} (h : KYp B n K) (h3 : wdS B (tk1 B n).2.1 (tk1 B n).2.2 K') (h4 : ∀ j, j < K' → ¬ wdS B (tk1 B n).2.1 (tk1 B n).2.2 j) : K' = K := by
  obtain ⟨a, b, c, e⟩ := h
  rcases Nat.lt_trichotomy K' K with q | q | q
  · exact absurd h3 (e K' q)
  · exact q
  · exact absurd c (h4 K q)
set_option maxHeartbeats 8000000 in
theorem c_textN {γ : GT} {d : Nat} {B : Nat → Int} {n : Nat} {s : Nat} {h : Nat → Nat → Int} {τ : List AC} {Post : Option AV → List AC → Prop} (hd : 7 ≤ d) (hn : h 123 17 = ((n : Nat) : Int)) (hm : n ≤ 96) (hB : ∀ k, k < n → h 137 k = B k) (hBr : ∀ k, 0 ≤ B k ∧ B k ≤ 255) (hC : CNE h) (hq : ∀ j, j < 3 → ¬ ((tk1 B n).1 = 1 ∧ wdS B (tk1 B n).2.1 (tk1 B n).2.2 j)) (hs : s = (tk1 B n).2.1) (hsn : s ≤ n) (kQ : ∀ h', Fr [123, 140, 141, 142] h h' → h' 123 17 = 0 → (∀ k, (k < 17 ∨ 30 < k) → h' 123 k = h 123 k) → Post (some (vI (-100 - ((s : Nat) : Int)))) (mk h' τ)) : Cj γ mX9_text d 0 0 [vA 123] (mk h τ) Post := by
  subst hs
  refine c_of (by decide) (Nat.le_of_ble_eq_true rfl) ?_
  show Aj γ mX9_text d 0 0 Post 0 [(0, vA 123)] [] (mk h τ)
  refine a_aload_n (j := 0) dX9_text_0 rfl rfl (Nat.le_of_ble_eq_true rfl) ?_
  refine a_iconst dX9_text_1 ⟨by decide, by decide⟩ ?_
  refine b_put (a := 123) (v := vI 0) dX9_text_2 pwX9_232 (fun h => nomatch h) (by decide) rfl (by decide) rfl rfl (fit_int _) ?_
  show Aj γ mX9_text d 0 0 Post 5 [(0, vA 123)] [] (mk (up2 h 123 18 0) τ)
  refine a_aload_n (j := 0) dX9_text_5 rfl rfl (Nat.le_of_ble_eq_true rfl) ?_
  refine a_iconst dX9_text_6 ⟨by decide, by decide⟩ ?_
  refine b_put (a := 123) (v := vI (-1)) dX9_text_7 pwX9_238 (fun h => nomatch h) (by decide) rfl (by decide) rfl rfl (fit_int _) ?_
  show Aj γ mX9_text d 0 0 Post 10 [(0, vA 123)] [] (mk (up2 (up2 h 123 18 0) 123 22 (-1)) τ)
  refine a_aload_n (j := 0) dX9_text_10 rfl rfl (Nat.le_of_ble_eq_true rfl) ?_
  refine b_callV (d' := d - 1) (mc' := 0) (ms' := 0) (mc1 := 0) (ms1 := 0) (st := []) (b := 123) [] dX9_text_11 mwX9_go lkX9_256 (by decide) rfl rc_X9 rfl (Nat.le_of_ble_eq_true rfl) (by omega) rfl rfl (c_X9_go (B := B) (n := n) (t := ((3, 0, 0) : Tk)) (by omega) ((up2_ne (by omega)).trans ((up2_ne (by omega)).trans hn)) hm (by rw [((up2_row (by omega)).trans ((up2_row (by omega)).trans rfl))]; exact hB) hBr ((up2_ne (by omega)).trans up2_at) (fun q => absurd (show (3 : Int) = 1 ∨ (3 : Int) = 2 from q) (by decide)) (fun _ => by rw [up2_at]; decide) (Nat.zero_le _) (fun h1 f1 k1 r1 => ?_))
  replace r1 : RTk B n h1 (tk1 B n) := r1
  have hk1 : ∀ k, (k < 18 ∨ 22 < k) → h1 123 k = h 123 k := fun k hk => (k1 k hk).trans ((up2_ne (by omega)).trans (up2_ne (by omega)))
  replace f1 : Fr [123] h h1 := Fr_t (Fr_u (by decide) (Fr_u (by decide) Fr_r)) f1
  show Aj γ mX9_text d 0 0 Post 14 [(0, vA 123)] [] (mk h1 τ)
  refine a_aload_n (j := 0) dX9_text_14 rfl rfl (Nat.le_of_ble_eq_true rfl) ?_
  refine b_callV (d' := d - 1) (mc' := 0) (ms' := 0) (mc1 := 0) (ms1 := 0) (st := []) (b := 123) [] dX9_text_15 mwX9_takesKey lkX9_287 (by decide) rfl rc_X9 rfl (Nat.le_of_ble_eq_true rfl) (by omega) rfl rfl (c_takesKey (B := B) (n := n) (t := tk1 B n) (by omega) hm hBr (CNE_fr (f1 138 (by decide)) (f1 139 (by decide)) hC) r1 (fun K' q2 q1 q3 q4 h2 f2 k2 e2 r2 => ?_) (fun q => ?_))
  · exact absurd ⟨q1, q3⟩ (hq K' q2)
  · show Aj γ mX9_text d 0 0 Post 18 [(0, vA 123)] [vI 0] (mk h1 τ)
    refine a_if_eq (tgt := 32) dX9_text_18 (by decide) (fun _ => ?_) (fun c => absurd c (by decide))
    refine a_iconst dX9_text_32 ⟨by decide, by decide⟩ ?_
    refine a_istore_n (lv' := [(1, vI 0), (0, vA 123)]) dX9_text_33 rfl (by decide) rfl ?_
    refine a_aload_n (j := 1) dX9_text_34 rfl rfl (Nat.le_of_ble_eq_true rfl) ?_
    refine a_iconst dX9_text_35 ⟨by decide, by decide⟩ ?_
    refine b_put (a := 123) (v := vI 0) dX9_text_36 pwX9_229 (fun h => nomatch h) (by decide) rfl (by decide) rfl rfl (fit_int _) ?_
    show Aj γ mX9_text d 0 0 Post 39 [(1, vI 0), (0, vA 123)] [] (mk (up2 h1 123 17 0) τ)
    refine a_iload_n (j := 0) dX9_text_39 rfl rfl ?_
    refine a_if_ne (tgt := 51) dX9_text_40 (by decide) (fun c => absurd c (by decide)) (fun _ => ?_)
    refine a_bipush dX9_text_43 ⟨by decide, by decide, by decide⟩ ?_
    refine a_aload_n (j := 1) dX9_text_45 rfl rfl (Nat.le_of_ble_eq_true rfl) ?_
    refine b_get (a := 123) (z := (((tk1 B n).2.1 : Nat) : Int)) (t := 0) dX9_text_46 fwX9_235 (by decide) rfl (by decide) rfl rfl ((up2_ne (by omega)).trans r1.2.2.2.1) ?_
    refine a_isub (z := ((-100) - (((tk1 B n).2.1 : Nat) : Int))) dX9_text_49 (w_ok (by omega) (by omega)) ?_
    exact a_iret dX9_text_50 rfl (kQ _ (Fr_u (by decide) (Fr_m (by decide) f1)) up2_at (fun k hk => (up2_ne (by omega)).trans (hk1 k (by omega))))
set_option maxHeartbeats 8000000 in
theorem c_textE {γ : GT} {d : Nat} {B : Nat → Int} {n : Nat} {K s : Nat} {b : Bool} {t' : Tk} {cs : List Int} {h : Nat → Nat → Int} {τ : List AC} {Post : Option AV → List AC → Prop} (hd : 7 ≤ d) (hn : h 123 17 = ((n : Nat) : Int)) (hm : n ≤ 96) (hB : ∀ k, k < n → h 137 k = B k) (hBr : ∀ k, 0 ≤ B k ∧ B k ≤ 255) (hC : CNE h) (hK : KYp B n K) (g : GR B n ((K : Nat) : Int) 0 0 0 (nxt B n (tk1 B n)) b t' cs) (hnb : ¬ (b = true ∧ t'.1 = 0)) (hs : s = t'.2.1) (hsn : s ≤ n) (kQ : ∀ h', Fr [123, 140, 141, 142] h h' → h' 123 17 = 0 → (∀ k, (k < 17 ∨ 30 < k) → h' 123 k = h 123 k) → Post (some (vI (-100 - ((s : Nat) : Int)))) (mk h' τ)) : Cj γ mX9_text d 0 0 [vA 123] (mk h τ) Post := by
  subst hs
  refine c_of (by decide) (Nat.le_of_ble_eq_true rfl) ?_
  show Aj γ mX9_text d 0 0 Post 0 [(0, vA 123)] [] (mk h τ)
  refine a_aload_n (j := 0) dX9_text_0 rfl rfl (Nat.le_of_ble_eq_true rfl) ?_
  refine a_iconst dX9_text_1 ⟨by decide, by decide⟩ ?_
  refine b_put (a := 123) (v := vI 0) dX9_text_2 pwX9_232 (fun h => nomatch h) (by decide) rfl (by decide) rfl rfl (fit_int _) ?_
  show Aj γ mX9_text d 0 0 Post 5 [(0, vA 123)] [] (mk (up2 h 123 18 0) τ)
  refine a_aload_n (j := 0) dX9_text_5 rfl rfl (Nat.le_of_ble_eq_true rfl) ?_
  refine a_iconst dX9_text_6 ⟨by decide, by decide⟩ ?_
  refine b_put (a := 123) (v := vI (-1)) dX9_text_7 pwX9_238 (fun h => nomatch h) (by decide) rfl (by decide) rfl rfl (fit_int _) ?_
  show Aj γ mX9_text d 0 0 Post 10 [(0, vA 123)] [] (mk (up2 (up2 h 123 18 0) 123 22 (-1)) τ)
  refine a_aload_n (j := 0) dX9_text_10 rfl rfl (Nat.le_of_ble_eq_true rfl) ?_
  refine b_callV (d' := d - 1) (mc' := 0) (ms' := 0) (mc1 := 0) (ms1 := 0) (st := []) (b := 123) [] dX9_text_11 mwX9_go lkX9_256 (by decide) rfl rc_X9 rfl (Nat.le_of_ble_eq_true rfl) (by omega) rfl rfl (c_X9_go (B := B) (n := n) (t := ((3, 0, 0) : Tk)) (by omega) ((up2_ne (by omega)).trans ((up2_ne (by omega)).trans hn)) hm (by rw [((up2_row (by omega)).trans ((up2_row (by omega)).trans rfl))]; exact hB) hBr ((up2_ne (by omega)).trans up2_at) (fun q => absurd (show (3 : Int) = 1 ∨ (3 : Int) = 2 from q) (by decide)) (fun _ => by rw [up2_at]; decide) (Nat.zero_le _) (fun h1 f1 k1 r1 => ?_))
  replace r1 : RTk B n h1 (tk1 B n) := r1
  have hk1 : ∀ k, (k < 18 ∨ 22 < k) → h1 123 k = h 123 k := fun k hk => (k1 k hk).trans ((up2_ne (by omega)).trans (up2_ne (by omega)))
  replace f1 : Fr [123] h h1 := Fr_t (Fr_u (by decide) (Fr_u (by decide) Fr_r)) f1
  show Aj γ mX9_text d 0 0 Post 14 [(0, vA 123)] [] (mk h1 τ)
  refine a_aload_n (j := 0) dX9_text_14 rfl rfl (Nat.le_of_ble_eq_true rfl) ?_
  refine b_callV (d' := d - 1) (mc' := 0) (ms' := 0) (mc1 := 0) (ms1 := 0) (st := []) (b := 123) [] dX9_text_15 mwX9_takesKey lkX9_287 (by decide) rfl rc_X9 rfl (Nat.le_of_ble_eq_true rfl) (by omega) rfl rfl (c_takesKey (B := B) (n := n) (t := tk1 B n) (by omega) hm hBr (CNE_fr (f1 138 (by decide)) (f1 139 (by decide)) hC) r1 (fun K' q2 q1 q3 q4 h2 f2 k2 e2 r2 => ?_) (fun q => ?_))
  · obtain rfl : K' = K := KY_eq hK q3 q4
    have hk2 : ∀ k, (k < 18 ∨ 23 < k) → h2 123 k = h 123 k := fun k hk => (k2 k hk).trans (hk1 k (by omega))
    replace f2 := Fr_t f1 f2
    show Aj γ mX9_text d 0 0 Post 18 [(0, vA 123)] [vI 1] (mk h2 τ)
    refine a_if_eq (tgt := 32) dX9_text_18 (by decide) (fun c => absurd c (by decide)) (fun _ => ?_)
    refine a_aload_n (j := 0) dX9_text_21 rfl rfl (Nat.le_of_ble_eq_true rfl) ?_
    refine b_callV (d' := d - 1) (mc' := 0) (ms' := 0) (mc1 := 0) (ms1 := 0) (st := []) (b := 123) [] dX9_text_22 mwX9_takesE lkX9_290 (by decide) rfl rc_X9 rfl (Nat.le_of_ble_eq_true rfl) (by omega) rfl rfl (c_takesE (B := B) (n := n) (K := K') (t := nxt B n (tk1 B n)) (by omega) hm hBr hK.1 r2 e2 g (fun hb h3 e19 f3 k3 => ?_) (fun hb hz h3 e27 e28 e140 e23 f3 k3 => ?_))
    · have hk3 : ∀ k, (k < 17 ∨ 30 < k) → h3 123 k = h 123 k := fun k hk => (k3 k (by omega) (by omega) (by omega) (by omega)).trans (hk2 k (by omega))
      replace f3 := Fr_t (Fr_m (by decide) f2) f3
      show Aj γ mX9_text d 0 0 Post 25 [(0, vA 123)] [vI 0] (mk h3 τ)
      refine a_if_eq (tgt := 32) dX9_text_25 (by decide) (fun _ => ?_) (fun c => absurd c (by decide))
      refine a_iconst dX9_text_32 ⟨by decide, by decide⟩ ?_
      refine a_istore_n (lv' := [(1, vI 0), (0, vA 123)]) dX9_text_33 rfl (by decide) rfl ?_
      refine a_aload_n (j := 1) dX9_text_34 rfl rfl (Nat.le_of_ble_eq_true rfl) ?_
      refine a_iconst dX9_text_35 ⟨by decide, by decide⟩ ?_
      refine b_put (a := 123) (v := vI 0) dX9_text_36 pwX9_229 (fun h => nomatch h) (by decide) rfl (by decide) rfl rfl (fit_int _) ?_
      show Aj γ mX9_text d 0 0 Post 39 [(1, vI 0), (0, vA 123)] [] (mk (up2 h3 123 17 0) τ)
      refine a_iload_n (j := 0) dX9_text_39 rfl rfl ?_
      refine a_if_ne (tgt := 51) dX9_text_40 (by decide) (fun c => absurd c (by decide)) (fun _ => ?_)
      refine a_bipush dX9_text_43 ⟨by decide, by decide, by decide⟩ ?_
      refine a_aload_n (j := 1) dX9_text_45 rfl rfl (Nat.le_of_ble_eq_true rfl) ?_
      refine b_get (a := 123) (z := ((t'.2.1 : Nat) : Int)) (t := 0) dX9_text_46 fwX9_235 (by decide) rfl (by decide) rfl rfl ((up2_ne (by omega)).trans e19) ?_
      refine a_isub (z := ((-100) - ((t'.2.1 : Nat) : Int))) dX9_text_49 (w_ok (by omega) (by omega)) ?_
      exact a_iret dX9_text_50 rfl (kQ _ (Fr_u (by decide) f3) up2_at (fun k hk => (up2_ne (by omega)).trans (hk3 k hk)))
    · exact absurd ⟨hb, hz⟩ hnb
  · exact absurd (show (tk1 B n).1 = 1 ∧ wdS B (tk1 B n).2.1 (tk1 B n).2.2 K from ⟨hK.2.1, hK.2.2.1⟩) (q K hK.1)
theorem c_textF {γ : GT} {d : Nat} {B : Nat → Int} {n s : Nat} {h : Nat → Nat → Int} {τ : List AC} {Post : Option AV → List AC → Prop} (hd : 7 ≤ d) (hn : h 123 17 = ((n : Nat) : Int)) (hm : n ≤ 96) (hB : ∀ k, k < n → h 137 k = B k) (hBr : ∀ k, 0 ≤ B k ∧ B k ≤ 255) (hC : CNE h) (q : PFl B n s) (kQ : ∀ h', Fr [123, 140, 141, 142] h h' → h' 123 17 = 0 → (∀ k, (k < 17 ∨ 30 < k) → h' 123 k = h 123 k) → Post (some (vI (-100 - ((s : Nat) : Int)))) (mk h' τ)) : Cj γ mX9_text d 0 0 [vA 123] (mk h τ) Post := by
  have hsn := PFl_le q
  rcases q with ⟨a, e⟩ | ⟨K, b, t', cs, h1, g, h2, e⟩
  · exact c_textN hd hn hm hB hBr hC a e hsn kQ
  · exact c_textE hd hn hm hB hBr hC h1 g h2 e hsn kQ
set_option maxHeartbeats 8000000 in
theorem l_txc {γ : GT} {d : Nat} {T : Nat} {cs : List Int} {h : Nat → Nat → Int} {τ : List AC} {Post : Option AV → List AC → Prop} (hT : T < 14) (hl : cs.length ≤ 96) (e27 : h 123 27 = ((cs.length : Nat) : Int)) (e140 : ∀ k, k < cs.length → h 140 k = cs.getD k 0) (kE : ∀ h', Fr [124] h h' → (∀ j, j < cs.length → h' 124 (201 + 96 * T + j) = cs.getD j 0) → (∀ k, (k < 201 + 96 * T ∨ 201 + 96 * T + cs.length ≤ k) → h' 124 k = h 124 k) → Aj γ mX9_text d 0 0 Post 154 [(3, vI ((cs.length : Nat) : Int)), (2, vI ((T : Nat) : Int)), (1, vI 1), (0, vA 123)] [] (mk h' τ)) :
    ∀ (f i : Nat) (h1 : Nat → Nat → Int), i ≤ cs.length → cs.length < i + f → Fr [124] h h1 → (∀ j, j < i → h1 124 (201 + 96 * T + j) = cs.getD j 0) → (∀ k, (k < 201 + 96 * T ∨ 201 + 96 * T + cs.length ≤ k) → h1 124 k = h 124 k) → Aj γ mX9_text d 0 0 Post 119 [(3, vI ((i : Nat) : Int)), (2, vI ((T : Nat) : Int)), (1, vI 1), (0, vA 123)] [] (mk h1 τ) := by
  intro f
  induction f with
  | zero => intro i h1  h1_ h2_; omega
  | succ f ih =>
    intro i h1  h1_ h2_ hF ia ib
    refine a_iload_n (j := 0) dX9_text_119 rfl rfl ?_
    refine a_aload_n (j := 3) dX9_text_120 rfl rfl (Nat.le_of_ble_eq_true rfl) ?_
    refine b_get (a := 123) (z := ((cs.length : Nat) : Int)) (t := 0) dX9_text_121 fwX9_265 (by decide) rfl (by decide) rfl rfl ((Fr_v hF (by decide)).trans e27) ?_
    refine a_icmp_ge (tgt := 154) dX9_text_124 (by decide) (fun c124_1 => ?_) (fun c124_1 => ?_)
    · obtain rfl : i = cs.length := (by omega)
      exact kE _ hF ia ib
    · refine a_aload_n (j := 3) dX9_text_127 rfl rfl (Nat.le_of_ble_eq_true rfl) ?_
      refine b_getp (a := 123) (p := 124) dX9_text_128 fwX9_9 (by decide) rfl (by decide) rfl rfl ?_
      refine a_sipush dX9_text_131 ⟨by decide, by decide, by decide⟩ ?_
      refine a_bipush dX9_text_134 ⟨by decide, by decide, by decide⟩ ?_
      refine a_iload_n (j := 1) dX9_text_136 rfl rfl ?_
      refine a_imul (z := (96 * ((T : Nat) : Int))) dX9_text_137 (w_ok (by omega) (by omega)) ?_
      refine a_iadd (z := (201 + (96 * ((T : Nat) : Int)))) dX9_text_138 (w_ok (by omega) (by omega)) ?_
      refine a_iload_n (j := 0) dX9_text_139 rfl rfl ?_
      refine a_iadd (z := ((201 + (96 * ((T : Nat) : Int))) + ((i : Nat) : Int))) dX9_text_140 (w_ok (by omega) (by omega)) ?_
      refine a_aload_n (j := 3) dX9_text_141 rfl rfl (Nat.le_of_ble_eq_true rfl) ?_
      refine b_getp (a := 123) (p := 140) dX9_text_142 fwX9_60 (by decide) rfl (by decide) rfl rfl ?_
      refine a_iload_n (j := 0) dX9_text_145 rfl rfl ?_
      refine b_iaload (a := 140) (z := (cs.getD i 0)) i dX9_text_146 (by decide) rfl rfl (by omega) (sp_nil rfl _) ((Fr_v hF (by decide)).trans (e140 i (by omega))) (fun r146_2 => ?_)
      refine b_iastore (a := 124) (201 + 96 * T + i) dX9_text_147 (by decide) rfl (by omega) (by omega) (sp_nil rfl _) ?_
      refine a_iinc (j := 0) (z' := ((i + 1 : Nat) : Int)) (lv' := [(3, vI ((i + 1 : Nat) : Int)), (2, vI ((T : Nat) : Int)), (1, vI 1), (0, vA 123)]) dX9_text_148 rfl (w_okN (by omega) (by omega) (by omega)) (by decide) rfl ?_
      refine a_goto (tgt := 119) dX9_text_151 (by decide) ?_
      refine a_lv (lv' := [(3, vI (((i + 1) : Nat) : Int)), (2, vI ((T : Nat) : Int)), (1, vI 1), (0, vA 123)]) (by intro q hq; simp only [List.mem_cons, List.not_mem_nil, or_false] at hq ⊢; rcases hq with rfl | rfl | rfl | rfl <;> simp) (ih (i + 1) (up2 h1 124 (201 + 96 * T + i) (cs.getD i 0))  (by omega) (by omega) (Fr_u (by decide) (Fr_m (by decide) hF)) (fun j hj => by
        by_cases c : j = i
        · subst c; exact up2_hit rfl (by omega)
        · exact (up2_ne (by omega)).trans (ia j (by omega))) (fun k hk => (up2_ne (by omega)).trans (ib k hk)))
set_option maxHeartbeats 8000000 in
theorem c_textT {γ : GT} {d : Nat} {B : Nat → Int} {n T K : Nat} {cs : List Int} {h : Nat → Nat → Int} {τ : List AC} {Post : Option AV → List AC → Prop} (hd : 7 ≤ d) (hn : h 123 17 = ((n : Nat) : Int)) (hm : n ≤ 96) (hB : ∀ k, k < n → h 137 k = B k) (hBr : ∀ k, 0 ≤ B k ∧ B k ≤ 255) (hC : CNE h) (e6 : h 124 6 = ((T : Nat) : Int)) (hT : T ≤ 14) (q : PSc B n K cs) (kU : T = 14 → ∀ h', Fr [123, 140, 141, 142] h h' → h' 123 17 = 0 → (∀ k, (k < 17 ∨ 30 < k) → h' 123 k = h 123 k) → Post (some (vI (-1000000003))) (mk h' τ)) (kT : T < 14 → ∀ h', Fr [123, 124, 140, 141, 142] h h' → h' 123 17 = 0 → h' 123 4 = 0 → (∀ k, k ≠ 4 → (k < 17 ∨ 30 < k) → h' 123 k = h 123 k) → h' 124 6 = ((T : Nat) : Int) + 1 → h' 124 (173 + 2 * T) = 1000 * ((K : Nat) : Int) + ((cs.length : Nat) : Int) → h' 124 (173 + 2 * T + 1) = ((lvs cs : Nat) : Int) → (∀ j, j < cs.length → h' 124 (201 + 96 * T + j) = cs.getD j 0) → (∀ k, k ≠ 6 → k ≠ 173 + 2 * T → k ≠ 173 + 2 * T + 1 → (k < 201 + 96 * T ∨ 201 + 96 * T + cs.length ≤ k) → h' 124 k = h 124 k) → Post (some (vI ((T : Nat) : Int))) (mk h' τ)) : Cj γ mX9_text d 0 0 [vA 123] (mk h τ) Post := by
  obtain ⟨hK, t', g, hz0⟩ := q
  have hcl := PSc_len hm hK g
  have hlv : lvs cs ≤ cs.length := List.countP_le_length
  have hK3 := hK.1
  refine c_of (by decide) (Nat.le_of_ble_eq_true rfl) ?_
  show Aj γ mX9_text d 0 0 Post 0 [(0, vA 123)] [] (mk h τ)
  refine a_aload_n (j := 0) dX9_text_0 rfl rfl (Nat.le_of_ble_eq_true rfl) ?_
  refine a_iconst dX9_text_1 ⟨by decide, by decide⟩ ?_
  refine b_put (a := 123) (v := vI 0) dX9_text_2 pwX9_232 (fun h => nomatch h) (by decide) rfl (by decide) rfl rfl (fit_int _) ?_
  show Aj γ mX9_text d 0 0 Post 5 [(0, vA 123)] [] (mk (up2 h 123 18 0) τ)
  refine a_aload_n (j := 0) dX9_text_5 rfl rfl (Nat.le_of_ble_eq_true rfl) ?_
  refine a_iconst dX9_text_6 ⟨by decide, by decide⟩ ?_
  refine b_put (a := 123) (v := vI (-1)) dX9_text_7 pwX9_238 (fun h => nomatch h) (by decide) rfl (by decide) rfl rfl (fit_int _) ?_
  show Aj γ mX9_text d 0 0 Post 10 [(0, vA 123)] [] (mk (up2 (up2 h 123 18 0) 123 22 (-1)) τ)
  refine a_aload_n (j := 0) dX9_text_10 rfl rfl (Nat.le_of_ble_eq_true rfl) ?_
  refine b_callV (d' := d - 1) (mc' := 0) (ms' := 0) (mc1 := 0) (ms1 := 0) (st := []) (b := 123) [] dX9_text_11 mwX9_go lkX9_256 (by decide) rfl rc_X9 rfl (Nat.le_of_ble_eq_true rfl) (by omega) rfl rfl (c_X9_go (B := B) (n := n) (t := ((3, 0, 0) : Tk)) (by omega) ((up2_ne (by omega)).trans ((up2_ne (by omega)).trans hn)) hm (by rw [((up2_row (by omega)).trans ((up2_row (by omega)).trans rfl))]; exact hB) hBr ((up2_ne (by omega)).trans up2_at) (fun q => absurd (show (3 : Int) = 1 ∨ (3 : Int) = 2 from q) (by decide)) (fun _ => by rw [up2_at]; decide) (Nat.zero_le _) (fun h1 f1 k1 r1 => ?_))
  replace r1 : RTk B n h1 (tk1 B n) := r1
  have hk1 : ∀ k, (k < 18 ∨ 22 < k) → h1 123 k = h 123 k := fun k hk => (k1 k hk).trans ((up2_ne (by omega)).trans (up2_ne (by omega)))
  replace f1 : Fr [123] h h1 := Fr_t (Fr_u (by decide) (Fr_u (by decide) Fr_r)) f1
  show Aj γ mX9_text d 0 0 Post 14 [(0, vA 123)] [] (mk h1 τ)
  refine a_aload_n (j := 0) dX9_text_14 rfl rfl (Nat.le_of_ble_eq_true rfl) ?_
  refine b_callV (d' := d - 1) (mc' := 0) (ms' := 0) (mc1 := 0) (ms1 := 0) (st := []) (b := 123) [] dX9_text_15 mwX9_takesKey lkX9_287 (by decide) rfl rc_X9 rfl (Nat.le_of_ble_eq_true rfl) (by omega) rfl rfl (c_takesKey (B := B) (n := n) (t := tk1 B n) (by omega) hm hBr (CNE_fr (f1 138 (by decide)) (f1 139 (by decide)) hC) r1 (fun K' q2 q1 q3 q4 h2 f2 k2 e2 r2 => ?_) (fun q => ?_))
  · obtain rfl : K' = K := KY_eq hK q3 q4
    have hk2 : ∀ k, (k < 18 ∨ 23 < k) → h2 123 k = h 123 k := fun k hk => (k2 k hk).trans (hk1 k (by omega))
    replace f2 := Fr_t f1 f2
    show Aj γ mX9_text d 0 0 Post 18 [(0, vA 123)] [vI 1] (mk h2 τ)
    refine a_if_eq (tgt := 32) dX9_text_18 (by decide) (fun c => absurd c (by decide)) (fun _ => ?_)
    refine a_aload_n (j := 0) dX9_text_21 rfl rfl (Nat.le_of_ble_eq_true rfl) ?_
    refine b_callV (d' := d - 1) (mc' := 0) (ms' := 0) (mc1 := 0) (ms1 := 0) (st := []) (b := 123) [] dX9_text_22 mwX9_takesE lkX9_290 (by decide) rfl rc_X9 rfl (Nat.le_of_ble_eq_true rfl) (by omega) rfl rfl (c_takesE (B := B) (n := n) (K := K') (t := nxt B n (tk1 B n)) (by omega) hm hBr hK.1 r2 e2 g (fun hb h3 e19 f3 k3 => ?_) (fun hb hz h3 e27 e28 e140 e23 f3 k3 => ?_))
    · exact absurd ⟨rfl, hz0⟩ hb
    · have hk3 : ∀ k, (k < 17 ∨ 30 < k) → h3 123 k = h 123 k := fun k hk => (k3 k (by omega) (by omega) (by omega) (by omega)).trans (hk2 k (by omega))
      replace f3 := Fr_t (Fr_m (by decide) f2) f3
      show Aj γ mX9_text d 0 0 Post 25 [(0, vA 123)] [vI 1] (mk h3 τ)
      refine a_if_eq (tgt := 32) dX9_text_25 (by decide) (fun c => absurd c (by decide)) (fun _ => ?_)
      refine a_iconst dX9_text_28 ⟨by decide, by decide⟩ ?_
      refine a_goto (tgt := 33) dX9_text_29 (by decide) ?_
      refine a_istore_n (lv' := [(1, vI 1), (0, vA 123)]) dX9_text_33 rfl (by decide) rfl ?_
      refine a_aload_n (j := 1) dX9_text_34 rfl rfl (Nat.le_of_ble_eq_true rfl) ?_
      refine a_iconst dX9_text_35 ⟨by decide, by decide⟩ ?_
      refine b_put (a := 123) (v := vI 0) dX9_text_36 pwX9_229 (fun h => nomatch h) (by decide) rfl (by decide) rfl rfl (fit_int _) ?_
      show Aj γ mX9_text d 0 0 Post 39 [(1, vI 1), (0, vA 123)] [] (mk (up2 h3 123 17 0) τ)
      refine a_iload_n (j := 0) dX9_text_39 rfl rfl ?_
      refine a_if_ne (tgt := 51) dX9_text_40 (by decide) (fun _ => ?_) (fun c => absurd c (by decide))
      refine a_aload_n (j := 1) dX9_text_51 rfl rfl (Nat.le_of_ble_eq_true rfl) ?_
      refine b_getp (a := 123) (p := 124) dX9_text_52 fwX9_9 (by decide) rfl (by decide) rfl rfl ?_
      refine a_bipush dX9_text_55 ⟨by decide, by decide, by decide⟩ ?_
      refine b_iaload (a := 124) (z := ((T : Nat) : Int)) 6 dX9_text_57 (by decide) rfl rfl (by decide) rfl ((up2_ne (by omega)).trans ((Fr_v f3 (by decide)).trans e6)) (fun r57_1 => ?_)
      refine a_bipush dX9_text_58 ⟨by decide, by decide, by decide⟩ ?_
      refine a_icmp_ne (tgt := 66) dX9_text_60 (by decide) (fun c60_2 => ?_) (fun c60_2 => ?_)
      · refine a_aload_n (j := 1) dX9_text_66 rfl rfl (Nat.le_of_ble_eq_true rfl) ?_
        refine b_getp (a := 123) (p := 124) dX9_text_67 fwX9_9 (by decide) rfl (by decide) rfl rfl ?_
        refine a_bipush dX9_text_70 ⟨by decide, by decide, by decide⟩ ?_
        refine b_iaload (a := 124) (z := ((T : Nat) : Int)) 6 dX9_text_72 (by decide) rfl rfl (by decide) rfl ((up2_ne (by omega)).trans ((Fr_v f3 (by decide)).trans e6)) (fun r72_3 => ?_)
        refine a_istore_n (lv' := [(2, vI ((T : Nat) : Int)), (1, vI 1), (0, vA 123)]) dX9_text_73 rfl (by decide) rfl ?_
        refine a_aload_n (j := 2) dX9_text_74 rfl rfl (Nat.le_of_ble_eq_true rfl) ?_
        refine b_getp (a := 123) (p := 124) dX9_text_75 fwX9_9 (by decide) rfl (by decide) rfl rfl ?_
        refine a_sipush dX9_text_78 ⟨by decide, by decide, by decide⟩ ?_
        refine a_iconst dX9_text_81 ⟨by decide, by decide⟩ ?_
        refine a_iload_n (j := 0) dX9_text_82 rfl rfl ?_
        refine a_imul (z := (2 * ((T : Nat) : Int))) dX9_text_83 (w_ok (by omega) (by omega)) ?_
        refine a_iadd (z := (173 + (2 * ((T : Nat) : Int)))) dX9_text_84 (w_ok (by omega) (by omega)) ?_
        refine a_sipush dX9_text_85 ⟨by decide, by decide, by decide⟩ ?_
        refine a_aload_n (j := 2) dX9_text_88 rfl rfl (Nat.le_of_ble_eq_true rfl) ?_
        refine b_get (a := 123) (z := ((K' : Nat) : Int)) (t := 0) dX9_text_89 fwX9_253 (by decide) rfl (by decide) rfl rfl ((up2_ne (by omega)).trans e23) ?_
        refine a_imul (z := (1000 * ((K' : Nat) : Int))) dX9_text_92 (w_ok (by omega) (by omega)) ?_
        refine a_aload_n (j := 2) dX9_text_93 rfl rfl (Nat.le_of_ble_eq_true rfl) ?_
        refine b_get (a := 123) (z := ((cs.length : Nat) : Int)) (t := 0) dX9_text_94 fwX9_265 (by decide) rfl (by decide) rfl rfl ((up2_ne (by omega)).trans e27) ?_
        refine a_iadd (z := ((1000 * ((K' : Nat) : Int)) + ((cs.length : Nat) : Int))) dX9_text_97 (w_ok (by omega) (by omega)) ?_
        refine b_iastore (a := 124) (173 + 2 * T) dX9_text_98 (by decide) rfl (by omega) (by omega) (sp_nil rfl _) ?_
        refine a_aload_n (j := 2) dX9_text_99 rfl rfl (Nat.le_of_ble_eq_true rfl) ?_
        refine b_getp (a := 123) (p := 124) dX9_text_100 fwX9_9 (by decide) rfl (by decide) rfl rfl ?_
        refine a_sipush dX9_text_103 ⟨by decide, by decide, by decide⟩ ?_
        refine a_iconst dX9_text_106 ⟨by decide, by decide⟩ ?_
        refine a_iload_n (j := 0) dX9_text_107 rfl rfl ?_
        refine a_imul (z := (2 * ((T : Nat) : Int))) dX9_text_108 (w_ok (by omega) (by omega)) ?_
        refine a_iadd (z := (173 + (2 * ((T : Nat) : Int)))) dX9_text_109 (w_ok (by omega) (by omega)) ?_
        refine a_iconst dX9_text_110 ⟨by decide, by decide⟩ ?_
        refine a_iadd (z := ((173 + (2 * ((T : Nat) : Int))) + 1)) dX9_text_111 (w_ok (by omega) (by omega)) ?_
        refine a_aload_n (j := 2) dX9_text_112 rfl rfl (Nat.le_of_ble_eq_true rfl) ?_
        refine b_get (a := 123) (z := ((lvs cs : Nat) : Int)) (t := 0) dX9_text_113 fwX9_271 (by decide) rfl (by decide) rfl rfl ((up2_ne (by omega)).trans ((up2_ne (by omega)).trans e28)) ?_
        refine b_iastore (a := 124) (174 + 2 * T) dX9_text_116 (by decide) rfl (by omega) (by omega) (sp_nil rfl _) ?_
        refine a_iconst dX9_text_117 ⟨by decide, by decide⟩ ?_
        refine a_istore_n (lv' := [(3, vI 0), (2, vI ((T : Nat) : Int)), (1, vI 1), (0, vA 123)]) dX9_text_118 rfl (by decide) rfl ?_
        refine a_lv (lv' := [(3, vI ((0 : Nat) : Int)), (2, vI ((T : Nat) : Int)), (1, vI 1), (0, vA 123)]) (by intro q hq; simp only [List.mem_cons, List.not_mem_nil, or_false] at hq ⊢; rcases hq with rfl | rfl | rfl | rfl <;> simp) (l_txc (h := (up2 (up2 (up2 h3 123 17 0) 124 (173 + 2 * T) ((1000 * ((K' : Nat) : Int)) + ((cs.length : Nat) : Int))) 124 (174 + 2 * T) ((lvs cs : Nat) : Int))) (T := T) (cs := cs) (by omega) (by omega) ((up2_ne (by omega)).trans ((up2_ne (by omega)).trans ((up2_ne (by omega)).trans e27))) (by rw [((up2_row (by omega)).trans ((up2_row (by omega)).trans ((up2_row (by omega)).trans rfl)))]; exact e140) ?_ (cs.length + 1) 0 _ (by omega) (by omega) Fr_r (fun j hj => by omega) (fun k hk => rfl))
        intro h4 f4 c4 n4
        show Aj γ mX9_text d 0 0 Post 154 [(3, vI ((cs.length : Nat) : Int)), (2, vI ((T : Nat) : Int)), (1, vI 1), (0, vA 123)] [] (mk h4 τ)
        refine a_aload_n (j := 3) dX9_text_154 rfl rfl (Nat.le_of_ble_eq_true rfl) ?_
        refine b_getp (a := 123) (p := 124) dX9_text_155 fwX9_9 (by decide) rfl (by decide) rfl rfl ?_
        refine a_bipush dX9_text_158 ⟨by decide, by decide, by decide⟩ ?_
        refine a_dup2 dX9_text_160 (fun h => nomatch h) (fun h => nomatch h) ?_
        refine b_iaload (a := 124) (z := ((T : Nat) : Int)) 6 dX9_text_161 (by decide) rfl rfl (by decide) rfl ((n4 6 (by omega)).trans ((up2_ne (by omega)).trans ((up2_ne (by omega)).trans ((up2_ne (by omega)).trans ((Fr_v f3 (by decide)).trans e6))))) (fun r161_4 => ?_)
        refine a_iconst dX9_text_162 ⟨by decide, by decide⟩ ?_
        refine a_iadd (z := (((T : Nat) : Int) + 1)) dX9_text_163 (w_ok (by omega) (by omega)) ?_
        refine b_iastore (a := 124) 6 dX9_text_164 (by decide) rfl rfl (by decide) rfl ?_
        refine a_aload_n (j := 3) dX9_text_165 rfl rfl (Nat.le_of_ble_eq_true rfl) ?_
        refine a_iconst dX9_text_166 ⟨by decide, by decide⟩ ?_
        refine b_put (a := 123) (v := vI 0) dX9_text_167 pwX9_111 (fun h => nomatch h) (by decide) rfl (by decide) rfl rfl (fit_bool (by first | exact Or.inl rfl | exact Or.inr rfl | omega)) ?_
        show Aj γ mX9_text d 0 0 Post 170 [(3, vI ((cs.length : Nat) : Int)), (2, vI ((T : Nat) : Int)), (1, vI 1), (0, vA 123)] [] (mk (up2 (up2 h4 124 6 (((T : Nat) : Int) + 1)) 123 4 0) τ)
        refine a_iload_n (j := 1) dX9_text_170 rfl rfl ?_
        exact a_iret dX9_text_171 rfl (kT (by omega) _ (Fr_u (by decide) (Fr_u (by decide) (Fr_t (Fr_u (by decide) (Fr_u (by decide) (Fr_u (by decide) (Fr_m (by decide) f3)))) (Fr_m (by decide) f4)))) ((up2_ne (by omega)).trans ((up2_ne (by omega)).trans ((Fr_v f4 (by decide)).trans ((up2_ne (by omega)).trans ((up2_ne (by omega)).trans up2_at))))) up2_at (fun k h5 hk => ((up2_ne (by omega)).trans ((up2_ne (by omega)).trans ((Fr_v f4 (by decide)).trans ((up2_ne (by omega)).trans ((up2_ne (by omega)).trans ((up2_ne (by omega)).trans (hk3 k hk)))))))) ((up2_ne (by omega)).trans up2_at) (((up2_ne (by omega)).trans ((up2_ne (by omega)).trans ((n4 _ (by omega)).trans ((up2_ne (by omega)).trans (up2_hit rfl (by omega)))))).trans (by omega)) ((up2_ne (by omega)).trans ((up2_ne (by omega)).trans ((n4 _ (by omega)).trans (up2_hit rfl (by omega))))) (fun j hj => ((up2_ne (by omega)).trans ((up2_ne (by omega)).trans (c4 j hj)))) (fun k h5 h6 h7 h8 => ((up2_ne (by omega)).trans ((up2_ne (by omega)).trans ((n4 k h8).trans ((up2_ne (by omega)).trans ((up2_ne (by omega)).trans ((up2_ne (by omega)).trans (Fr_v f3 (by decide))))))))))
      · refine a_ldc (z := (-1000000003)) dX9_text_63 kwX9_147 ⟨by decide, by decide, by decide⟩ ?_
        exact a_iret dX9_text_65 rfl (kU (by omega) _ (Fr_u (by decide) f3) up2_at (fun k hk => (up2_ne (by omega)).trans (hk3 k hk)))
  · exact absurd (show (tk1 B n).1 = 1 ∧ wdS B (tk1 B n).2.1 (tk1 B n).2.2 K from ⟨hK.2.1, hK.2.2.1⟩) (q K hK.1)
