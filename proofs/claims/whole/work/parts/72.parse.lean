theorem mk_setT {h : Nat → Nat → Int} {τ : List AC} {q : Nat} {c : AC} : (mk h τ).set (154 + q) c = mk h (τ.set q c) := by
  unfold mk
  rw [List.set_append_right _ _ (by simp), List.length_map, List.length_range, Nat.add_sub_cancel_left]
theorem tau_s1 {τ : List AC} {c e : AC} : (τ ++ [c]).set τ.length e = τ ++ [e] := by
  rw [List.set_append_right _ _ (Nat.le_refl _), Nat.sub_self]
  rfl
theorem tau_s2 {τ : List AC} {c e g : AC} : ((τ ++ [c]) ++ [e]).set τ.length g = τ ++ [g, e] := by
  rw [List.set_append_left _ _ (by simp), tau_s1, List.append_assoc]
  rfl
theorem tau_1 {τ : List AC} {c : AC} : (τ ++ [c])[τ.length]? = some c := by simp
theorem tau_2 {τ : List AC} {c e : AC} : ((τ ++ [c]) ++ [e])[τ.length]? = some c := by simp
theorem tau_3 {τ : List AC} {c e : AC} : (τ ++ [c, e])[τ.length]? = some c := by simp
theorem c_copyOf {γ : GT} {d : Nat} {L : Nat} {h : Nat → Nat → Int} {τ : List AC} {Post : Option AV → List AC → Prop} (hd : 2 ≤ d) (hL : L < 96) (kQ : Post (some (vA (154 + τ.length))) (mk h (τ ++ [(12, L, cpy (lay h 86).2.2 (dfl 12) 0 0 L)]))) : Cj γ mJ7_copyOf_59c91 d 1 96 [vA 86, vI ((L : Nat) : Int)] (mk h τ) Post := by
  refine c_of (by decide) (Nat.le_of_ble_eq_true rfl) ?_
  show Aj γ mJ7_copyOf_59c91 d 1 96 Post 0 [(0, vA 86), (1, vI ((L : Nat) : Int))] [] (mk h τ)
  refine a_iload_n (j := 1) dJ7_copyOf_59c91_0 rfl rfl ?_
  refine a_aload_n (j := 0) dJ7_copyOf_59c91_1 rfl rfl (Nat.le_of_ble_eq_true rfl) ?_
  refine b_alen (a := 86) dJ7_copyOf_59c91_2 (by decide) rfl ⟨by decide, by decide⟩ (by decide) ?_
  refine a_icmp_ne (tgt := 14) dJ7_copyOf_59c91_3 (by decide) (fun c3_1 => ?_) (fun c3_1 => absurd c3_1 (by omega))
  refine a_iload_n (j := 1) dJ7_copyOf_59c91_14 rfl rfl ?_
  refine a_newarrayI (N := L) (mc1 := 0) (ms1 := 96 - L) dJ7_copyOf_59c91_15 aw_int rfl (by omega) rfl (by omega) ?_
  rw [mk_push, mk_len]
  show Aj γ mJ7_copyOf_59c91 d 0 (96 - L) Post 17 [(0, vA 86), (1, vI ((L : Nat) : Int))] [vA (154 + τ.length)] (mk h (τ ++ [(12, L, dfl 12)]))
  refine a_astore_n (lv' := [(2, vA (154 + τ.length)), (0, vA 86), (1, vI ((L : Nat) : Int))]) dJ7_copyOf_59c91_17 rfl (by decide) (Nat.le_of_ble_eq_true rfl) rfl ?_
  refine a_aload_n (j := 1) dJ7_copyOf_59c91_18 rfl rfl (Nat.le_of_ble_eq_true rfl) ?_
  refine a_iconst dJ7_copyOf_59c91_19 ⟨by decide, by decide⟩ ?_
  refine a_aload_n (j := 0) dJ7_copyOf_59c91_20 rfl rfl (Nat.le_of_ble_eq_true rfl) ?_
  refine a_iconst dJ7_copyOf_59c91_21 ⟨by decide, by decide⟩ ?_
  refine a_aload_n (j := 1) dJ7_copyOf_59c91_22 rfl rfl (Nat.le_of_ble_eq_true rfl) ?_
  refine b_alen (a := 86) dJ7_copyOf_59c91_23 (by decide) rfl ⟨by decide, by decide⟩ (by decide) ?_
  refine a_iload_n (j := 2) dJ7_copyOf_59c91_24 rfl rfl ?_
  refine a_mmin (z := ((L : Nat) : Int)) dJ7_copyOf_59c91_25 mlJ7_304 (Nat.le_of_ble_eq_true rfl) (by omega) (by split <;> omega) ?_
  refine a_copy (a := 86) (b := 154 + τ.length) (n0' := 96) (n1 := L) (sp := 0) (dp := 0) (n := L) (f := (lay h 86).2.2) (g := dfl 12) dJ7_copyOf_59c91_28 alJ7_150 ac_w (mk_get (by decide)) ((mk_dyn _).trans tau_1) rfl rfl rfl (by omega) (by omega) (Nat.le_of_ble_eq_true rfl) (by omega) ?_
  rw [mk_setT, tau_s1]
  refine a_aload_n (j := 0) dJ7_copyOf_59c91_31 rfl rfl (Nat.le_of_ble_eq_true rfl) ?_
  exact a_aret dJ7_copyOf_59c91_32 rfl (Or.inr ⟨_, rfl⟩) (Nat.le_of_ble_eq_true rfl) kQ
theorem c_Tinit {γ : GT} {d : Nat} {q r : Nat} {a b : Int} {f : Nat → Int} {h : Nat → Nat → Int} {τ : List AC} {Post : Option AV → List AC → Prop} (hd : 1 ≤ d) (hq : τ[q]? = some (4, 3, f)) (kQ : Post none (mk h (τ.set q (4, 3, up (up (up f 0 a) 1 b) 2 ((r : Nat) : Int))))) : Cj γ mX4_init d 0 0 [vA (154 + q), vI a, vI b, vA r] (mk h τ) Post := by
  have hl : q < τ.length := (List.getElem?_eq_some_iff.mp hq).1
  refine c_of (by decide) (Nat.le_of_ble_eq_true rfl) ?_
  show Aj γ mX4_init d 0 0 Post 0 [(0, vA (154 + q)), (1, vI a), (2, vI b), (3, vA r)] [] (mk h τ)
  refine a_aload_n (j := 0) dX4_init_0 rfl rfl (Nat.le_of_ble_eq_true rfl) ?_
  refine a_objInit dX4_init_1 olX4_1 oi_i oi_c (Nat.le_of_ble_eq_true rfl) (by omega) ?_
  refine a_aload_n (j := 0) dX4_init_4 rfl rfl (Nat.le_of_ble_eq_true rfl) ?_
  refine a_iload_n (j := 1) dX4_init_5 rfl rfl ?_
  refine a_put (a := 154 + q) (κ := 4) (k := 0) (n := 3) (f := f) (v := vI a) dX4_init_6 pwX4_7 (fun _ => rfl) ((mk_dyn q).trans hq) (by decide) rfl (fit_int _) ?_
  rw [mk_setT]
  refine a_aload_n (j := 0) dX4_init_9 rfl rfl (Nat.le_of_ble_eq_true rfl) ?_
  refine a_iload_n (j := 2) dX4_init_10 rfl rfl ?_
  refine a_put (a := 154 + q) (κ := 4) (k := 1) (n := 3) (f := up f 0 a) (v := vI b) dX4_init_11 pwX4_13 (fun _ => rfl) ((mk_dyn q).trans (List.getElem?_set_self hl)) (by decide) rfl (fit_int _) ?_
  rw [mk_setT, List.set_set]
  refine a_aload_n (j := 0) dX4_init_14 rfl rfl (Nat.le_of_ble_eq_true rfl) ?_
  refine a_aload_n (j := 3) dX4_init_15 rfl rfl (Nat.le_of_ble_eq_true rfl) ?_
  refine a_put (a := 154 + q) (κ := 4) (k := 2) (n := 3) (f := up (up f 0 a) 1 b) (v := vA r) dX4_init_16 pwX4_16 (fun _ => rfl) ((mk_dyn q).trans (List.getElem?_set_self hl)) (by decide) rfl (fit_arr (Nat.le_of_ble_eq_true rfl)) ?_
  rw [mk_setT, List.set_set]
  exact a_vret dX4_init_19 rfl kQ
/-- the first token, and the state behind it -/
def tk1 (B : Nat → Int) (n : Nat) : Tk := nxt B n ((3, 0, 0) : Tk)
def CS0 (B : Nat → Int) (n : Nat) (h : Nat → Nat → Int) (t : Tk) : Prop := h 84 1 = ((n : Nat) : Int) ∧ (∀ k, k < n → and32 (h 85 k) 255 = B k) ∧ h 84 2 = ((t.2.1 : Nat) : Int) ∧ h 84 3 = ((t.2.2 : Nat) : Int) ∧ h 84 4 = t.1 ∧ h 84 6 = 0 ∧ h 84 7 = 0 ∧ tkV B n t
theorem CS0.lt {B : Nat → Int} {n : Nat} {h : Nat → Nat → Int} {t : Tk} (cs : CS0 B n h t) (hz : t.1 = 1) : t.2.1 < t.2.2 ∧ t.2.2 ≤ n := ⟨cs.2.2.2.2.2.2.2.2.2.2.1 (by omega), cs.2.2.2.2.2.2.2.2.1⟩
theorem c_go0 {γ : GT} {d : Nat} {B : Nat → Int} {n : Nat} {h : Nat → Nat → Int} {τ : List AC} {Post : Option AV → List AC → Prop} (hd : 2 ≤ d) (hm : n ≤ 96) (e1 : h 84 1 = ((n : Nat) : Int)) (hB : ∀ k, k < n → and32 (h 85 k) 255 = B k) (e3 : h 84 3 = 0) (e4 : h 84 4 = 3) (e6 : h 84 6 = 0) (e7 : h 84 7 = 0) (kQ : ∀ h', Fr [84, 86] h h' → CS0 B n h' (tk1 B n) → Post none (mk h' τ)) : Cj γ mX3_goOn d 0 0 [vA 84] (mk h τ) Post := by
  refine c_X3_goOn (B := B) (t := ((3, 0, 0) : Tk)) hd e1 hm hB e3 e4 (Nat.zero_le _) (fun h' hF hk a2 a3 a4 => kQ h' (Fr_m (by decide) hF) ⟨(hk 1 (by decide)).trans e1, by rw [hF 85 (by decide)]; exact hB, a2, a3, a4, (hk 6 (by decide)).trans e6, (hk 7 (by decide)).trans e7, (nxt_V (t := ((3, 0, 0) : Tk)) (Nat.zero_le _)).1⟩)
theorem CS0.key {B : Nat → Int} {n K : Nat} {h : Nat → Nat → Int} {t : Tk} (cs : CS0 B n h t) : CSt B n K (up2 h 84 5 ((K : Nat) : Int)) [] t := by
  obtain ⟨c1, c2, c3, c4, c5, c6, c7, c8⟩ := cs
  refine ⟨(up2_ne (by omega)).trans c1, by rw [up2_row (by decide)]; exact c2, (up2_ne (by omega)).trans c3, (up2_ne (by omega)).trans c4, (up2_ne (by omega)).trans c5, up2_at, (up2_ne (by omega)).trans c6, (up2_ne (by omega)).trans c7, fun k hk => absurd hk (Nat.not_lt_zero _), c8⟩
/-- the key of the text -/
def KYp (B : Nat → Int) (n K : Nat) : Prop := K < 3 ∧ (tk1 B n).1 = 1 ∧ wdS B (tk1 B n).2.1 (tk1 B n).2.2 K ∧ ∀ j, j < K → ¬ wdS B (tk1 B n).2.1 (tk1 B n).2.2 j
/-- no text: where it stops -/
def PFl (B : Nat → Int) (n s : Nat) : Prop := ((∀ j, j < 3 → ¬ ((tk1 B n).1 = 1 ∧ wdS B (tk1 B n).2.1 (tk1 B n).2.2 j)) ∧ s = (tk1 B n).2.1) ∨ ∃ (K : Nat) (b : Bool) (t' : Tk) (cs : List Int), KYp B n K ∧ GR B n ((K : Nat) : Int) 0 0 0 (nxt B n (tk1 B n)) b t' cs ∧ ¬ (b = true ∧ t'.1 = 0) ∧ s = t'.2.1
/-- a text: its key and its codes -/
def PSc (B : Nat → Int) (n K : Nat) (cs : List Int) : Prop := KYp B n K ∧ ∃ t' : Tk, GR B n ((K : Nat) : Int) 0 0 0 (nxt B n (tk1 B n)) true t' cs ∧ t'.1 = 0
/-- the two cells of a text -/
def TXc (τ : List AC) (K : Nat) (cs : List Int) (ft cx : Nat → Int) : Prop := ft 0 = ((K : Nat) : Int) ∧ ft 1 = ((lvs cs : Nat) : Int) ∧ ft 2 = ((154 + (τ.length + 1) : Nat) : Int) ∧ ∀ k, k < cs.length → okX (cx k) ∧ cmX (cx k) = cs.getD k 0
theorem tk1_V {B : Nat → Int} {n : Nat} : tkV B n (tk1 B n) := (nxt_V (t := ((3, 0, 0) : Tk)) (Nat.zero_le _)).1
theorem wd_4 {B : Nat → Int} {s e K : Nat} (hK : K < 3) (h : wdS B s e K) : s + 4 ≤ e := by
  have q : ∀ i, i < 3 → 4 ≤ slen.getD i 0 := by decide
  have := q K hK
  have := h.1
  omega
/-- a text has few codes -/
theorem PSc_len {B : Nat → Int} {n K : Nat} {cs : List Int} {t' : Tk} (hm : n ≤ 96) (hK : KYp B n K) (g : GR B n ((K : Nat) : Int) 0 0 0 (nxt B n (tk1 B n)) true t' cs) : cs.length ≤ 92 := by
  have hV := tk1_V (B := B) (n := n)
  have h4 := wd_4 hK.1 hK.2.2.1
  have q := nxt_V (B := B) (n := n) (t := tk1 B n) hV.2.1
  have w := gr_w g q.1
  have u := (w.2.2 rfl).1
  have a := w.1.1
  have b := w.1.2.1
  omega
set_option maxHeartbeats 8000000 in
theorem c_parse {γ : GT} {d : Nat} {B : Nat → Int} {n : Nat} {h : Nat → Nat → Int} {τ : List AC} {Post : Option AV → List AC → Prop} (hd : 90 ≤ d) (hn : h 84 1 = ((n : Nat) : Int)) (hm : n ≤ 96) (hB : ∀ k, k < n → and32 (h 85 k) 255 = B k) (hBr : ∀ k, 0 ≤ B k ∧ B k ≤ 255) (kF : ∀ (h' : Nat → Nat → Int) (s : Nat), Fr [84, 86] h h' → h' 84 2 = ((s : Nat) : Int) → PFl B n s → Post (some vN) (mk h' τ)) (kT : ∀ (h' : Nat → Nat → Int) (K : Nat) (cs : List Int) (ft cx : Nat → Int), Fr [84, 86] h h' → PSc B n K cs → TXc τ K cs ft cx → Post (some (vA (154 + τ.length))) (mk h' (τ ++ [(4, 3, ft), (12, cs.length, cx)]))) : Cj γ mX3_parse d 2 99 [vA 84] (mk h τ) Post := by
  refine c_of (by decide) (Nat.le_of_ble_eq_true rfl) ?_
  show Aj γ mX3_parse d 2 99 Post 0 [(0, vA 84)] [] (mk h τ)
  refine a_aload_n (j := 0) dX3_parse_0 rfl rfl (Nat.le_of_ble_eq_true rfl) ?_
  refine a_iconst dX3_parse_1 ⟨by decide, by decide⟩ ?_
  refine b_put (a := 84) (v := vI 0) dX3_parse_2 pwX3_27 (fun h => nomatch h) (by decide) rfl (by decide) rfl rfl (fit_int _) ?_
  show Aj γ mX3_parse d 2 99 Post 5 [(0, vA 84)] [] (mk (up2 h 84 3 0) τ)
  refine a_aload_n (j := 0) dX3_parse_5 rfl rfl (Nat.le_of_ble_eq_true rfl) ?_
  refine a_iconst dX3_parse_6 ⟨by decide, by decide⟩ ?_
  refine b_put (a := 84) (v := vI 3) dX3_parse_7 pwX3_30 (fun h => nomatch h) (by decide) rfl (by decide) rfl rfl (fit_int _) ?_
  show Aj γ mX3_parse d 2 99 Post 10 [(0, vA 84)] [] (mk (up2 (up2 h 84 3 0) 84 4 3) τ)
  refine a_aload_n (j := 0) dX3_parse_10 rfl rfl (Nat.le_of_ble_eq_true rfl) ?_
  refine a_iconst dX3_parse_11 ⟨by decide, by decide⟩ ?_
  refine b_put (a := 84) (v := vI 0) dX3_parse_12 pwX3_33 (fun h => nomatch h) (by decide) rfl (by decide) rfl rfl (fit_int _) ?_
  show Aj γ mX3_parse d 2 99 Post 15 [(0, vA 84)] [] (mk (up2 (up2 (up2 h 84 3 0) 84 4 3) 84 7 0) τ)
  refine a_aload_n (j := 0) dX3_parse_15 rfl rfl (Nat.le_of_ble_eq_true rfl) ?_
  refine a_iconst dX3_parse_16 ⟨by decide, by decide⟩ ?_
  refine b_put (a := 84) (v := vI 0) dX3_parse_17 pwX3_36 (fun h => nomatch h) (by decide) rfl (by decide) rfl rfl (fit_int _) ?_
  show Aj γ mX3_parse d 2 99 Post 20 [(0, vA 84)] [] (mk (up2 (up2 (up2 (up2 h 84 3 0) 84 4 3) 84 7 0) 84 6 0) τ)
  refine a_aload_n (j := 0) dX3_parse_20 rfl rfl (Nat.le_of_ble_eq_true rfl) ?_
  refine b_callV (d' := d - 1) (mc' := 0) (ms' := 0) (mc1 := 2) (ms1 := 99) (st := []) (b := 84) [] dX3_parse_21 mwX3_goOn lkX3_39 (by decide) rfl rc_X3 rfl (Nat.le_of_ble_eq_true rfl) (by omega) (by omega) (by omega) (c_go0 (B := B) (n := n) (by omega) hm ((up2_ne (by omega)).trans ((up2_ne (by omega)).trans ((up2_ne (by omega)).trans ((up2_ne (by omega)).trans hn)))) (by rw [((up2_row (by omega)).trans ((up2_row (by omega)).trans ((up2_row (by omega)).trans ((up2_row (by omega)).trans rfl))))]; exact hB) ((up2_ne (by omega)).trans ((up2_ne (by omega)).trans ((up2_ne (by omega)).trans up2_at))) ((up2_ne (by omega)).trans ((up2_ne (by omega)).trans up2_at)) up2_at ((up2_ne (by omega)).trans up2_at) (fun h1 f1 c0 => ?_))
  replace f1 := Fr_t (show Fr [84, 86] h (up2 (up2 (up2 (up2 h 84 3 0) 84 4 3) 84 7 0) 84 6 0) from (Fr_u (by decide) (Fr_u (by decide) (Fr_u (by decide) (Fr_u (by decide) Fr_r))))) f1
  show Aj γ mX3_parse d 2 99 Post 24 [(0, vA 84)] [] (mk h1 τ)
  refine a_aload_n (j := 0) dX3_parse_24 rfl rfl (Nat.le_of_ble_eq_true rfl) ?_
  refine a_aload_n (j := 0) dX3_parse_25 rfl rfl (Nat.le_of_ble_eq_true rfl) ?_
  refine b_callV (d' := d - 1) (mc' := 0) (ms' := 0) (mc1 := 2) (ms1 := 99) (st := [vA 84]) (b := 84) [] dX3_parse_26 mwX3_keyHere lkX3_42 (by decide) rfl rc_X3 rfl (Nat.le_of_ble_eq_true rfl) (by omega) (by omega) (by omega) (c_keyHere (B := B) (n := n) (s := (tk1 B n).2.1) (e := (tk1 B n).2.2) (kd := (tk1 B n).1) (by omega) c0.1 hm c0.2.1 hBr c0.2.2.1 c0.2.2.2.1 c0.2.2.2.2.1 c0.lt (fun K hK3 q1 q2 q3 => ?_) (fun q0 => ?_))
  · show Aj γ mX3_parse d 2 99 Post 29 [(0, vA 84)] [vI ((K : Nat) : Int), vA 84] (mk h1 τ)
    refine b_put (a := 84) (v := vI ((K : Nat) : Int)) dX3_parse_29 pwX3_46 (fun h => nomatch h) (by decide) rfl (by decide) rfl rfl (fit_int _) ?_
    show Aj γ mX3_parse d 2 99 Post 32 [(0, vA 84)] [] (mk (up2 h1 84 5 ((K : Nat) : Int)) τ)
    refine a_aload_n (j := 0) dX3_parse_32 rfl rfl (Nat.le_of_ble_eq_true rfl) ?_
    refine b_get (a := 84) (z := ((K : Nat) : Int)) (t := 0) dX3_parse_33 fwX3_46 (by decide) rfl (by decide) rfl rfl up2_at ?_
    refine a_ldc (z := (-1000000005)) dX3_parse_36 kwX3_49 ⟨by decide, by decide, by decide⟩ ?_
    refine a_icmp_ne (tgt := 43) dX3_parse_38 (by decide) (fun c38_1 => ?_) (fun c38_1 => absurd c38_1 (by omega))
    have c2 := c0.key (K := K)
    have hKY : KYp B n K := ⟨hK3, q1, q2, q3⟩
    refine a_aload_n (j := 0) dX3_parse_43 rfl rfl (Nat.le_of_ble_eq_true rfl) ?_
    refine b_callV (d' := d - 1) (mc' := 0) (ms' := 0) (mc1 := 2) (ms1 := 99) (st := []) (b := 84) [] dX3_parse_44 mwX3_goOn lkX3_39 (by decide) rfl rc_X3 rfl (Nat.le_of_ble_eq_true rfl) (by omega) (by omega) (by omega) (c_goC (B := B) (n := n) (K := K) (a := []) (t := (tk1 B n)) (by omega) hm c2 (fun hg2 fg2 cg2 => ?_))
    have vg2 := nxt_V (B := B) (t := (tk1 B n)) c2.V.2.1
    show Aj γ mX3_parse d 2 99 Post 47 [(0, vA 84)] [] (mk hg2 τ)
    refine a_aload_n (j := 0) dX3_parse_47 rfl rfl (Nat.le_of_ble_eq_true rfl) ?_
    refine a_iconst dX3_parse_48 ⟨by decide, by decide⟩ ?_
    refine a_iconst dX3_parse_49 ⟨by decide, by decide⟩ ?_
    refine a_iconst dX3_parse_50 ⟨by decide, by decide⟩ ?_
    refine b_callV (d' := d - 1) (mc' := 0) (ms' := 0) (mc1 := 2) (ms1 := 99) (st := []) (b := 84) [vI 0, vI 0, vI 0] dX3_parse_51 mwX3_readLevel lkX3_50 (by decide) rfl rc_X3 rfl (Nat.le_of_ble_eq_true rfl) (by omega) (by omega) (by omega) (c_top hm hBr hK3 (d - 1) hg2 τ _ [] (nxt B n (tk1 B n)) (by omega) cg2 (Nat.zero_le _) (fun h3 t3 cs f3 g3 s3 => ?_) (fun h3 t3 cs f3 g3 s3 => ?_))
    · replace s3 : CSt B n K h3 cs t3 := s3
      show Aj γ mX3_parse d 2 99 Post 54 [(0, vA 84)] [vI 1] (mk h3 τ)
      refine a_if_eq (tgt := 68) dX3_parse_54 (by decide) (fun c => absurd c (by decide)) (fun _ => ?_)
      refine a_aload_n (j := 0) dX3_parse_57 rfl rfl (Nat.le_of_ble_eq_true rfl) ?_
      refine b_get (a := 84) (z := t3.1) (t := 0) dX3_parse_58 fwX3_30 (by decide) rfl (by decide) rfl rfl s3.2.2.2.2.1 ?_
      refine a_if_ne (tgt := 68) dX3_parse_61 (by decide) (fun c61_3 => ?_) (fun c61_3 => ?_)
      · refine a_iconst dX3_parse_68 ⟨by decide, by decide⟩ ?_
        refine a_istore_n (lv' := [(1, vI 0), (0, vA 84)]) dX3_parse_69 rfl (by decide) rfl ?_
        refine a_iload_n (j := 0) dX3_parse_70 rfl rfl ?_
        refine a_if_eq (tgt := 103) dX3_parse_71 (by decide) (fun _ => ?_) (fun c => absurd c (by decide))
        refine a_null dX3_parse_103 ?_
        exact a_aret dX3_parse_104 rfl (Or.inl ⟨_, rfl⟩) (Nat.le_of_ble_eq_true rfl) (kF _ _ (Fr_t (Fr_t (Fr_u (by decide) f1) fg2) f3) s3.2.2.1 (Or.inr ⟨K, true, t3, cs, hKY, g3, (fun q => by have := q.2; omega), rfl⟩))
      · refine a_iconst dX3_parse_64 ⟨by decide, by decide⟩ ?_
        refine a_goto (tgt := 69) dX3_parse_65 (by decide) ?_
        refine a_istore_n (lv' := [(1, vI 1), (0, vA 84)]) dX3_parse_69 rfl (by decide) rfl ?_
        refine a_iload_n (j := 0) dX3_parse_70 rfl rfl ?_
        refine a_if_eq (tgt := 103) dX3_parse_71 (by decide) (fun c => absurd c (by decide)) (fun _ => ?_)
        have hcl := PSc_len hm hKY g3
        refine a_new (κ := 4) (N := 3) (mc1 := 1) (ms1 := 96) dX3_parse_74 nwX3_53 rfl rfl ?_
        rw [mk_push, mk_len]
        show Aj γ mX3_parse d 1 96 Post 77 [(1, vI 1), (0, vA 84)] [vA (154 + τ.length)] (mk h3 (τ ++ [(4, 3, dfl 4)]))
        refine a_dup dX3_parse_77 (fun h => nomatch h) ?_
        refine a_aload_n (j := 1) dX3_parse_78 rfl rfl (Nat.le_of_ble_eq_true rfl) ?_
        refine b_get (a := 84) (z := ((K : Nat) : Int)) (t := 0) dX3_parse_79 fwX3_46 (by decide) rfl (by decide) rfl rfl s3.2.2.2.2.2.1 ?_
        refine a_aload_n (j := 1) dX3_parse_82 rfl rfl (Nat.le_of_ble_eq_true rfl) ?_
        refine b_get (a := 84) (z := ((lvs cs : Nat) : Int)) (t := 0) dX3_parse_83 fwX3_36 (by decide) rfl (by decide) rfl rfl s3.2.2.2.2.2.2.1 ?_
        refine a_aload_n (j := 1) dX3_parse_86 rfl rfl (Nat.le_of_ble_eq_true rfl) ?_
        refine b_getp (a := 84) (p := 86) dX3_parse_87 fwX3_15 (by decide) rfl (by decide) rfl rfl ?_
        refine a_aload_n (j := 1) dX3_parse_90 rfl rfl (Nat.le_of_ble_eq_true rfl) ?_
        refine b_get (a := 84) (z := ((cs.length : Nat) : Int)) (t := 0) dX3_parse_91 fwX3_33 (by decide) rfl (by decide) rfl rfl s3.2.2.2.2.2.2.2.1 ?_
        refine a_callS (d' := d - 1) (mc' := 1) (ms' := 96) (mc1 := 0) (ms1 := 0) (st := [vI ((lvs cs : Nat) : Int), vI ((K : Nat) : Int), vA (154 + τ.length), vA (154 + τ.length)]) [vA 86, vI ((cs.length : Nat) : Int)] dX3_parse_94 mwJ7_copyOf_59c91 lkX3_55 rfl (Nat.le_of_ble_eq_true rfl) (by omega) rfl rfl (c_copyOf (L := cs.length) (by omega) (by omega) ?_)
        show Aj γ mX3_parse d 0 0 Post 97 [(1, vI 1), (0, vA 84)] [vA (154 + (τ ++ [(4, 3, dfl 4)]).length), vI ((lvs cs : Nat) : Int), vI ((K : Nat) : Int), vA (154 + τ.length), vA (154 + τ.length)] (mk h3 ((τ ++ [(4, 3, dfl 4)]) ++ [(12, cs.length, (cpy (lay h3 86).2.2 (dfl 12) 0 0 cs.length))]))
        refine a_callI (d' := d - 1) (mc' := 0) (ms' := 0) (mc1 := 0) (ms1 := 0) (st := [vA (154 + τ.length)]) (b := (154 + τ.length)) [vI ((K : Nat) : Int), vI ((lvs cs : Nat) : Int), vA (154 + (τ ++ [(4, 3, dfl 4)]).length)] dX3_parse_97 mwX4_init lkX3_61 rfl (Nat.le_of_ble_eq_true rfl) (by omega) rfl rfl (c_Tinit (q := τ.length) (f := dfl 4) (by omega) tau_2 ?_)
        rw [tau_s2]
        have hq2 : (up (up (up (dfl 4) 0 ((K : Nat) : Int)) 1 ((lvs cs : Nat) : Int)) 2 ((154 + (τ ++ [(4, 3, dfl 4)]).length : Nat) : Int)) 2 = ((154 + (τ.length + 1) : Nat) : Int) := by show ((154 + (τ ++ [(4, 3, dfl 4)]).length : Nat) : Int) = _; rw [List.length_append]; rfl
        have hq3 : ∀ k, k < cs.length → okX ((cpy (lay h3 86).2.2 (dfl 12) 0 0 cs.length) k) ∧ cmX ((cpy (lay h3 86).2.2 (dfl 12) 0 0 cs.length) k) = cs.getD k 0 := by
          intro k hk
          have e : (cpy (lay h3 86).2.2 (dfl 12) 0 0 cs.length) k = h3 86 k := by
            unfold cpy
            rw [if_pos ⟨by omega, by omega⟩, Nat.zero_add, Nat.sub_zero]
            exact lay_c (sp_nil rfl _)
          rw [e]
          exact s3.2.2.2.2.2.2.2.2.1 k hk
        show Aj γ mX3_parse d 0 0 Post 100 [(1, vI 1), (0, vA 84)] [vA (154 + τ.length)] (mk h3 (τ ++ [(4, 3, (up (up (up (dfl 4) 0 ((K : Nat) : Int)) 1 ((lvs cs : Nat) : Int)) 2 ((154 + (τ ++ [(4, 3, dfl 4)]).length : Nat) : Int))), (12, cs.length, (cpy (lay h3 86).2.2 (dfl 12) 0 0 cs.length))]))
        refine a_goto (tgt := 104) dX3_parse_100 (by decide) ?_
        exact a_aret dX3_parse_104 rfl (Or.inl ⟨_, rfl⟩) (Nat.le_of_ble_eq_true rfl) (kT _ K cs _ _ (Fr_t (Fr_t (Fr_u (by decide) f1) fg2) f3) ⟨hKY, t3, g3, by omega⟩ ⟨rfl, rfl, hq2, hq3⟩)
    · show Aj γ mX3_parse d 2 99 Post 54 [(0, vA 84)] [vI 0] (mk h3 τ)
      refine a_if_eq (tgt := 68) dX3_parse_54 (by decide) (fun _ => ?_) (fun c => absurd c (by decide))
      refine a_iconst dX3_parse_68 ⟨by decide, by decide⟩ ?_
      refine a_istore_n (lv' := [(1, vI 0), (0, vA 84)]) dX3_parse_69 rfl (by decide) rfl ?_
      refine a_iload_n (j := 0) dX3_parse_70 rfl rfl ?_
      refine a_if_eq (tgt := 103) dX3_parse_71 (by decide) (fun _ => ?_) (fun c => absurd c (by decide))
      refine a_null dX3_parse_103 ?_
      exact a_aret dX3_parse_104 rfl (Or.inl ⟨_, rfl⟩) (Nat.le_of_ble_eq_true rfl) (kF _ _ (Fr_t (Fr_t (Fr_u (by decide) f1) fg2) f3) s3.1 (Or.inr ⟨K, false, t3, cs, hKY, g3, (fun q => nomatch q.1), rfl⟩))
  · show Aj γ mX3_parse d 2 99 Post 29 [(0, vA 84)] [vI (-1000000005), vA 84] (mk h1 τ)
    refine b_put (a := 84) (v := vI (-1000000005)) dX3_parse_29 pwX3_46 (fun h => nomatch h) (by decide) rfl (by decide) rfl rfl (fit_int _) ?_
    show Aj γ mX3_parse d 2 99 Post 32 [(0, vA 84)] [] (mk (up2 h1 84 5 (-1000000005)) τ)
    refine a_aload_n (j := 0) dX3_parse_32 rfl rfl (Nat.le_of_ble_eq_true rfl) ?_
    refine b_get (a := 84) (z := (-1000000005)) (t := 0) dX3_parse_33 fwX3_46 (by decide) rfl (by decide) rfl rfl up2_at ?_
    refine a_ldc (z := (-1000000005)) dX3_parse_36 kwX3_49 ⟨by decide, by decide, by decide⟩ ?_
    refine a_icmp_ne (tgt := 43) dX3_parse_38 (by decide) (fun c => absurd c (by decide)) (fun _ => ?_)
    refine a_null dX3_parse_41 ?_
    exact a_aret dX3_parse_42 rfl (Or.inl ⟨_, rfl⟩) (Nat.le_of_ble_eq_true rfl) (kF _ _ (Fr_u (by decide) f1) ((up2_ne (by omega)).trans c0.2.2.1) (Or.inl ⟨q0, rfl⟩))
