/-- the stack's row: the top first -/
def wtS (f : Nat → Int) : List Int → Prop
  | [] => True
  | x :: W => f W.length = x ∧ wtS f W
theorem wtS_e {f g : Nat → Int} : ∀ {W : List Int}, (∀ k, k < W.length → g k = f k) → wtS f W → wtS g W
  | [], _, _ => trivial
  | x :: W, h, q => ⟨(h W.length (Nat.lt_succ_self _)).trans q.1, wtS_e (fun k hk => h k (Nat.lt_succ_of_lt hk)) q.2⟩
theorem wtS_t {f : Nat → Int} : ∀ {p W : List Int}, wtS f (p ++ W) → wtS f W
  | [], _, q => q
  | _ :: _, _, q => wtS_t q.2
theorem wt_drop {f : Nat → Int} : ∀ {W : List Int} {k : Nat}, wtS f W → k < W.length → W.drop (W.length - (k + 1)) = f k :: W.drop (W.length - k)
  | [], k, _, h => absurd h (Nat.not_lt_zero _)
  | x :: W, k, q, h => by
    rw [List.length_cons] at h ⊢
    by_cases c : k = W.length
    · subst c
      rw [Nat.sub_self, show W.length + 1 - W.length = 1 by omega, q.1]
      rfl
    · rw [show W.length + 1 - (k + 1) = (W.length - (k + 1)) + 1 by omega, show W.length + 1 - k = (W.length - k) + 1 by omega, List.drop_succ_cons, List.drop_succ_cons]
      exact wt_drop q.2 (by omega)
/-- what waits, and the codes -/
def STk (h : Nat → Nat → Int) (W C : List Int) : Prop := h 123 30 = ((W.length : Nat) : Int) ∧ h 123 27 = ((C.length : Nat) : Int) ∧ wtS (h 141) W ∧ ∀ k, k < C.length → h 140 k = C.getD k 0
theorem getD_l {C : List Int} {x : Int} {k : Nat} (h : k < C.length) : (C ++ [x]).getD k 0 = C.getD k 0 := by
  simp only [List.getD]
  rw [List.getElem?_append_left h]
theorem getD_n {C : List Int} {x : Int} : (C ++ [x]).getD C.length 0 = x := by
  simp [List.getD]
theorem STk_mv {h h' : Nat → Nat → Int} {x : Int} {W C : List Int} (q : STk h (x :: W) C) (e1 : h' 123 30 = ((W.length : Nat) : Int)) (e2 : h' 123 27 = ((C.length : Nat) : Int) + 1) (e3 : h' 141 = h 141) (e4 : h' 140 C.length = x) (e5 : ∀ k, k ≠ C.length → h' 140 k = h 140 k) : STk h' W (C ++ [x]) := by
  obtain ⟨q1, q2, q3, q4⟩ := q
  refine ⟨e1, e2.trans (by rw [List.length_append]; rfl), by rw [e3]; exact q3.2, ?_⟩
  intro k hk
  rw [List.length_append, List.length_singleton] at hk
  by_cases c : k = C.length
  · subst c; rw [e4, getD_n]
  · rw [e5 k c, q4 k (by omega), getD_l (by omega)]
theorem c_rk {γ : GT} {d : Nat} {g : Int} {h : Nat → Nat → Int} {τ : List AC} {Post : Option AV → List AC → Prop} (kQ : Post (some (vI (rkF g))) (mk h τ)) : Cj γ mX9_rank d 0 0 [vI g] (mk h τ) Post := c_X9_rank (Nat.zero_le _) kQ
theorem rkF_rng (g : Int) : 1 ≤ rkF g ∧ rkF g ≤ 6 := by
  unfold rkF
  repeat' split
  all_goals omega
theorem l_st0 {γ : GT} {d : Nat} {l : Int} {h : Nat → Nat → Int} {τ : List AC} {Post : Option AV → List AC → Prop} (e30 : h 123 30 = 0) (kQ : Post none (mk h τ)) : Aj γ mX9_settle d 0 0 Post 0 [(0, vA 123), (1, vI l)] [] (mk h τ) := by
  refine a_aload_n (j := 0) dX9_settle_0 rfl rfl (Nat.le_of_ble_eq_true rfl) ?_
  refine b_get (a := 123) (z := 0) (t := 0) dX9_settle_1 fwX9_259 (by decide) rfl (by decide) rfl rfl e30 ?_
  refine a_if_le (tgt := 82) dX9_settle_4 (by decide) (fun _ => ?_) (fun c => absurd c (by decide))
  exact a_vret dX9_settle_82 rfl kQ
theorem l_st1 {γ : GT} {d : Nat} {m : Nat} {l y : Int} {h : Nat → Nat → Int} {τ : List AC} {Post : Option AV → List AC → Prop} (hd : 1 ≤ d) (hm : m < 96) (e30 : h 123 30 = ((m + 1 : Nat) : Int)) (ey : h 141 m = y) (hy : y = -11 ∨ rkF y < l) (kQ : Post none (mk h τ)) : Aj γ mX9_settle d 0 0 Post 0 [(0, vA 123), (1, vI l)] [] (mk h τ) := by
  refine a_aload_n (j := 0) dX9_settle_0 rfl rfl (Nat.le_of_ble_eq_true rfl) ?_
  refine b_get (a := 123) (z := ((m + 1 : Nat) : Int)) (t := 0) dX9_settle_1 fwX9_259 (by decide) rfl (by decide) rfl rfl e30 ?_
  refine a_if_le (tgt := 82) dX9_settle_4 (by decide) (fun c4_1 => absurd c4_1 (by omega)) (fun c4_1 => ?_)
  refine a_aload_n (j := 0) dX9_settle_7 rfl rfl (Nat.le_of_ble_eq_true rfl) ?_
  refine b_getp (a := 123) (p := 141) dX9_settle_8 fwX9_63 (by decide) rfl (by decide) rfl rfl ?_
  refine a_aload_n (j := 0) dX9_settle_11 rfl rfl (Nat.le_of_ble_eq_true rfl) ?_
  refine b_get (a := 123) (z := ((m + 1 : Nat) : Int)) (t := 0) dX9_settle_12 fwX9_259 (by decide) rfl (by decide) rfl rfl e30 ?_
  refine a_iconst dX9_settle_15 ⟨by decide, by decide⟩ ?_
  refine a_isub (z := ((m : Nat) : Int)) dX9_settle_16 (w_okN (by omega) (by omega) (by omega)) ?_
  refine b_iaload (a := 141) (z := y) m dX9_settle_17 (by decide) rfl rfl (by omega) (sp_nil rfl _) ey (fun r17_2 => ?_)
  refine a_bipush dX9_settle_18 ⟨by decide, by decide, by decide⟩ ?_
  refine a_icmp_eq (tgt := 82) dX9_settle_20 (by decide) (fun c20_3 => ?_) (fun c20_3 => ?_)
  · exact a_vret dX9_settle_82 rfl kQ
  · refine a_aload_n (j := 0) dX9_settle_23 rfl rfl (Nat.le_of_ble_eq_true rfl) ?_
    refine b_getp (a := 123) (p := 141) dX9_settle_24 fwX9_63 (by decide) rfl (by decide) rfl rfl ?_
    refine a_aload_n (j := 0) dX9_settle_27 rfl rfl (Nat.le_of_ble_eq_true rfl) ?_
    refine b_get (a := 123) (z := ((m + 1 : Nat) : Int)) (t := 0) dX9_settle_28 fwX9_259 (by decide) rfl (by decide) rfl rfl e30 ?_
    refine a_iconst dX9_settle_31 ⟨by decide, by decide⟩ ?_
    refine a_isub (z := ((m : Nat) : Int)) dX9_settle_32 (w_okN (by omega) (by omega) (by omega)) ?_
    refine b_iaload (a := 141) (z := y) m dX9_settle_33 (by decide) rfl rfl (by omega) (sp_nil rfl _) ey (fun r33_4 => ?_)
    refine a_callS (d' := d - 1) (mc' := 0) (ms' := 0) (mc1 := 0) (ms1 := 0) (st := []) [vI y] dX9_settle_34 mwX9_rank lkX9_262 rfl (Nat.le_of_ble_eq_true rfl) (by omega) rfl rfl (c_rk ?_)
    show Aj γ mX9_settle d 0 0 Post 37 [(0, vA 123), (1, vI l)] [vI (rkF y)] (mk h τ)
    refine a_iload_n (j := 1) dX9_settle_37 rfl rfl ?_
    refine a_icmp_lt (tgt := 82) dX9_settle_38 (by decide) (fun c38_5 => ?_) (fun c38_5 => ?_)
    · exact a_vret dX9_settle_82 rfl kQ
    · exfalso
      omega
theorem l_st2 {γ : GT} {d : Nat} {m q : Nat} {l y : Int} {h : Nat → Nat → Int} {τ : List AC} {Post : Option AV → List AC → Prop} (hd : 1 ≤ d) (hm : m < 96) (hq : q < 96) (e30 : h 123 30 = ((m + 1 : Nat) : Int)) (ey : h 141 m = y) (e27 : h 123 27 = ((q : Nat) : Int)) (hy : ¬ y = -11 ∧ l ≤ rkF y) (kE : Aj γ mX9_settle d 0 0 Post 0 [(0, vA 123), (1, vI l)] [] (mk (up2 (up2 (up2 h 123 30 ((m : Nat) : Int)) 140 q y) 123 27 (((q : Nat) : Int) + 1)) τ)) : Aj γ mX9_settle d 0 0 Post 0 [(0, vA 123), (1, vI l)] [] (mk h τ) := by
  refine a_aload_n (j := 0) dX9_settle_0 rfl rfl (Nat.le_of_ble_eq_true rfl) ?_
  refine b_get (a := 123) (z := ((m + 1 : Nat) : Int)) (t := 0) dX9_settle_1 fwX9_259 (by decide) rfl (by decide) rfl rfl e30 ?_
  refine a_if_le (tgt := 82) dX9_settle_4 (by decide) (fun c4_1 => absurd c4_1 (by omega)) (fun c4_1 => ?_)
  refine a_aload_n (j := 0) dX9_settle_7 rfl rfl (Nat.le_of_ble_eq_true rfl) ?_
  refine b_getp (a := 123) (p := 141) dX9_settle_8 fwX9_63 (by decide) rfl (by decide) rfl rfl ?_
  refine a_aload_n (j := 0) dX9_settle_11 rfl rfl (Nat.le_of_ble_eq_true rfl) ?_
  refine b_get (a := 123) (z := ((m + 1 : Nat) : Int)) (t := 0) dX9_settle_12 fwX9_259 (by decide) rfl (by decide) rfl rfl e30 ?_
  refine a_iconst dX9_settle_15 ⟨by decide, by decide⟩ ?_
  refine a_isub (z := ((m : Nat) : Int)) dX9_settle_16 (w_okN (by omega) (by omega) (by omega)) ?_
  refine b_iaload (a := 141) (z := y) m dX9_settle_17 (by decide) rfl rfl (by omega) (sp_nil rfl _) ey (fun r17_2 => ?_)
  refine a_bipush dX9_settle_18 ⟨by decide, by decide, by decide⟩ ?_
  refine a_icmp_eq (tgt := 82) dX9_settle_20 (by decide) (fun c20_3 => absurd c20_3 (by omega)) (fun c20_3 => ?_)
  refine a_aload_n (j := 0) dX9_settle_23 rfl rfl (Nat.le_of_ble_eq_true rfl) ?_
  refine b_getp (a := 123) (p := 141) dX9_settle_24 fwX9_63 (by decide) rfl (by decide) rfl rfl ?_
  refine a_aload_n (j := 0) dX9_settle_27 rfl rfl (Nat.le_of_ble_eq_true rfl) ?_
  refine b_get (a := 123) (z := ((m + 1 : Nat) : Int)) (t := 0) dX9_settle_28 fwX9_259 (by decide) rfl (by decide) rfl rfl e30 ?_
  refine a_iconst dX9_settle_31 ⟨by decide, by decide⟩ ?_
  refine a_isub (z := ((m : Nat) : Int)) dX9_settle_32 (w_okN (by omega) (by omega) (by omega)) ?_
  refine b_iaload (a := 141) (z := y) m dX9_settle_33 (by decide) rfl rfl (by omega) (sp_nil rfl _) ey (fun r33_4 => ?_)
  refine a_callS (d' := d - 1) (mc' := 0) (ms' := 0) (mc1 := 0) (ms1 := 0) (st := []) [vI y] dX9_settle_34 mwX9_rank lkX9_262 rfl (Nat.le_of_ble_eq_true rfl) (by omega) rfl rfl (c_rk ?_)
  show Aj γ mX9_settle d 0 0 Post 37 [(0, vA 123), (1, vI l)] [vI (rkF y)] (mk h τ)
  refine a_iload_n (j := 1) dX9_settle_37 rfl rfl ?_
  refine a_icmp_lt (tgt := 82) dX9_settle_38 (by decide) (fun c38_5 => absurd c38_5 (by omega)) (fun c38_5 => ?_)
  refine a_aload_n (j := 0) dX9_settle_41 rfl rfl (Nat.le_of_ble_eq_true rfl) ?_
  refine a_dup dX9_settle_42 (fun h => nomatch h) ?_
  refine b_get (a := 123) (z := ((m + 1 : Nat) : Int)) (t := 0) dX9_settle_43 fwX9_259 (by decide) rfl (by decide) rfl rfl e30 ?_
  refine a_iconst dX9_settle_46 ⟨by decide, by decide⟩ ?_
  refine a_isub (z := ((m : Nat) : Int)) dX9_settle_47 (w_okN (by omega) (by omega) (by omega)) ?_
  refine b_put (a := 123) (v := vI ((m : Nat) : Int)) dX9_settle_48 pwX9_259 (fun h => nomatch h) (by decide) rfl (by decide) rfl rfl (fit_int _) ?_
  show Aj γ mX9_settle d 0 0 Post 51 [(0, vA 123), (1, vI l)] [] (mk (up2 h 123 30 ((m : Nat) : Int)) τ)
  refine a_aload_n (j := 0) dX9_settle_51 rfl rfl (Nat.le_of_ble_eq_true rfl) ?_
  refine b_getp (a := 123) (p := 140) dX9_settle_52 fwX9_60 (by decide) rfl (by decide) rfl rfl ?_
  refine a_aload_n (j := 0) dX9_settle_55 rfl rfl (Nat.le_of_ble_eq_true rfl) ?_
  refine b_get (a := 123) (z := ((q : Nat) : Int)) (t := 0) dX9_settle_56 fwX9_265 (by decide) rfl (by decide) rfl rfl ((up2_ne (by omega)).trans e27) ?_
  refine a_aload_n (j := 0) dX9_settle_59 rfl rfl (Nat.le_of_ble_eq_true rfl) ?_
  refine b_getp (a := 123) (p := 141) dX9_settle_60 fwX9_63 (by decide) rfl (by decide) rfl rfl ?_
  refine a_aload_n (j := 0) dX9_settle_63 rfl rfl (Nat.le_of_ble_eq_true rfl) ?_
  refine b_get (a := 123) (z := ((m : Nat) : Int)) (t := 0) dX9_settle_64 fwX9_259 (by decide) rfl (by decide) rfl rfl up2_at ?_
  refine b_iaload (a := 141) (z := y) m dX9_settle_67 (by decide) rfl rfl (by omega) (sp_nil rfl _) ((up2_ne (by omega)).trans ey) (fun r67_6 => ?_)
  refine b_iastore (a := 140) q dX9_settle_68 (by decide) rfl rfl (by omega) (sp_nil rfl _) ?_
  refine a_aload_n (j := 0) dX9_settle_69 rfl rfl (Nat.le_of_ble_eq_true rfl) ?_
  refine a_dup dX9_settle_70 (fun h => nomatch h) ?_
  refine b_get (a := 123) (z := ((q : Nat) : Int)) (t := 0) dX9_settle_71 fwX9_265 (by decide) rfl (by decide) rfl rfl ((up2_ne (by omega)).trans ((up2_ne (by omega)).trans e27)) ?_
  refine a_iconst dX9_settle_74 ⟨by decide, by decide⟩ ?_
  refine a_iadd (z := (((q : Nat) : Int) + 1)) dX9_settle_75 (w_ok (by omega) (by omega)) ?_
  refine b_put (a := 123) (v := vI (((q : Nat) : Int) + 1)) dX9_settle_76 pwX9_265 (fun h => nomatch h) (by decide) rfl (by decide) rfl rfl (fit_int _) ?_
  show Aj γ mX9_settle d 0 0 Post 79 [(0, vA 123), (1, vI l)] [] (mk (up2 (up2 (up2 h 123 30 ((m : Nat) : Int)) 140 q y) 123 27 (((q : Nat) : Int) + 1)) τ)
  refine a_goto (tgt := 0) dX9_settle_79 (by decide) ?_
  exact kE
/-- settle moves p -/
theorem l_set {γ : GT} {d : Nat} {l : Int} {V : List Int} {τ : List AC} {Post : Option AV → List AC → Prop} (hd : 1 ≤ d) (hV : ∀ (y : Int) (r : List Int), V = y :: r → y = -11 ∨ rkF y < l) : ∀ (p C : List Int) (h : Nat → Nat → Int), STk h (p ++ V) C → (p ++ V).length + C.length ≤ 96 → (∀ x : Int, x ∈ p → ¬ x = -11 ∧ l ≤ rkF x) → (∀ h', Fr [123, 140] h h' → (∀ k, k ≠ 27 → k ≠ 30 → h' 123 k = h 123 k) → STk h' V (C ++ p) → Post none (mk h' τ)) → Aj γ mX9_settle d 0 0 Post 0 [(0, vA 123), (1, vI l)] [] (mk h τ)
  | [], C, h, q, hb, hp, kQ => by
    have kQ := kQ h Fr_r (fun _ _ _ => rfl) (by rw [List.append_nil]; exact q)
    cases hV' : V with
    | nil =>
      rw [hV'] at q
      exact l_st0 q.1 kQ
    | cons y r =>
      rw [hV'] at q hb
      have hb2 : (y :: r).length + C.length ≤ 96 := hb
      rw [List.length_cons] at hb2
      exact l_st1 (m := r.length) hd (by omega) q.1 q.2.2.1.1 (hV y r hV') kQ
  | x :: p, C, h, q, hb, hp, kQ => by
    have hb2 : ((p ++ V).length + 1) + C.length ≤ 96 := hb
    have hl : (C ++ [x]).length = C.length + 1 := by rw [List.length_append]; rfl
    refine l_st2 (m := (p ++ V).length) (q := C.length) hd (by omega) (by omega) q.1 q.2.2.1.1 q.2.1 (hp x List.mem_cons_self) ?_
    refine l_set hd hV p (C ++ [x]) _ (STk_mv q ((up2_ne (by omega)).trans ((up2_ne (by omega)).trans up2_at)) up2_at ((up2_row (by decide)).trans ((up2_row (by decide)).trans (up2_row (by decide)))) ((up2_ne (by omega)).trans up2_at) (fun k hk => (up2_ne (by omega)).trans ((up2_ne (by omega)).trans (up2_ne (by omega))))) (by omega) (fun y hy => hp y (List.mem_cons_of_mem _ hy)) (fun h' hF hk s => kQ h' (Fr_t (Fr_u (by decide) (Fr_u (by decide) (Fr_u (by decide) Fr_r))) hF) (fun k h1 h2 => (hk k h1 h2).trans ((up2_ne (by omega)).trans ((up2_ne (by omega)).trans (up2_ne (by omega))))) ?_)
    rw [List.append_assoc] at s
    exact s
set_option maxHeartbeats 8000000 in
theorem l_nts {γ : GT} {d : Nat} {W : List Int} {h : Nat → Nat → Int} {τ : List AC} {Post : Option AV → List AC → Prop} (e30 : h 123 30 = ((W.length : Nat) : Int)) (hW : wtS (h 141) W) (hw : W.length ≤ 96) (kQ : Post (some (vI ((ntc W : Nat) : Int))) (mk h τ)) :
    ∀ (f i : Nat) (m : Int), i ≤ W.length → W.length < i + f → (m = ((ntc (W.drop (W.length - i)) : Nat) : Int)) → Aj γ mX9_notsOpen d 0 0 Post 4 [(1, vI m), (2, vI ((i : Nat) : Int)), (0, vA 123)] [] (mk h τ) := by
  intro f
  induction f with
  | zero => intro i m h1_ h2_; omega
  | succ f ih =>
    intro i m h1_ h2_ iv
    have hnc : ntc (W.drop (W.length - i)) ≤ (W.drop (W.length - i)).length := List.countP_le_length
    have hnl : (W.drop (W.length - i)).length ≤ W.length := by rw [List.length_drop]; omega
    refine a_iload_n (j := 1) dX9_notsOpen_4 rfl rfl ?_
    refine a_aload_n (j := 2) dX9_notsOpen_5 rfl rfl (Nat.le_of_ble_eq_true rfl) ?_
    refine b_get (a := 123) (z := ((W.length : Nat) : Int)) (t := 0) dX9_notsOpen_6 fwX9_259 (by decide) rfl (by decide) rfl rfl e30 ?_
    refine a_icmp_ge (tgt := 37) dX9_notsOpen_9 (by decide) (fun c9_1 => ?_) (fun c9_1 => ?_)
    · refine a_iload_n (j := 0) dX9_notsOpen_37 rfl rfl ?_
      exact a_iret dX9_notsOpen_38 rfl (post_v kQ (by have e1 : i = W.length := (by omega); rw [iv, e1, Nat.sub_self]; rfl))
    · refine a_iload_n (j := 0) dX9_notsOpen_12 rfl rfl ?_
      refine a_aload_n (j := 2) dX9_notsOpen_13 rfl rfl (Nat.le_of_ble_eq_true rfl) ?_
      refine b_getp (a := 123) (p := 141) dX9_notsOpen_14 fwX9_63 (by decide) rfl (by decide) rfl rfl ?_
      refine a_iload_n (j := 1) dX9_notsOpen_17 rfl rfl ?_
      refine b_iaload (a := 141) (z := h 141 i) i dX9_notsOpen_18 (by decide) rfl rfl (by omega) (sp_nil rfl _) rfl (fun r18_2 => ?_)
      refine a_bipush dX9_notsOpen_19 ⟨by decide, by decide, by decide⟩ ?_
      refine a_icmp_ne (tgt := 28) dX9_notsOpen_21 (by decide) (fun c21_3 => ?_) (fun c21_3 => ?_)
      · refine a_iconst dX9_notsOpen_28 ⟨by decide, by decide⟩ ?_
        refine a_iadd (z := m + 0) dX9_notsOpen_29 (w_ok (by omega) (by omega)) ?_
        refine a_istore_n (lv' := [(1, vI (m + 0)), (2, vI ((i : Nat) : Int)), (0, vA 123)]) dX9_notsOpen_30 rfl (by decide) rfl ?_
        refine a_iinc (j := 1) (z' := ((i + 1 : Nat) : Int)) (lv' := [(2, vI ((i + 1 : Nat) : Int)), (1, vI (m + 0)), (0, vA 123)]) dX9_notsOpen_31 rfl (w_okN (by omega) (by omega) (by omega)) (by decide) rfl ?_
        refine a_goto (tgt := 4) dX9_notsOpen_34 (by decide) ?_
        refine a_lv (lv' := [(1, vI (m + 0)), (2, vI (((i + 1) : Nat) : Int)), (0, vA 123)]) (by intro q hq; simp only [List.mem_cons, List.not_mem_nil, or_false] at hq ⊢; rcases hq with rfl | rfl | rfl <;> simp) (ih (i + 1) (m + 0) (by omega) (by omega) (by have e := wt_drop hW (show i < W.length by omega); rw [e]; first | (rw [(by assumption : h 141 i = -10), ntc_not]; omega) | (rw [ntc_sg (by assumption)]; omega)))
      · refine a_iconst dX9_notsOpen_24 ⟨by decide, by decide⟩ ?_
        refine a_goto (tgt := 29) dX9_notsOpen_25 (by decide) ?_
        refine a_iadd (z := (m + 1)) dX9_notsOpen_29 (w_ok (by omega) (by omega)) ?_
        refine a_istore_n (lv' := [(1, vI (m + 1)), (2, vI ((i : Nat) : Int)), (0, vA 123)]) dX9_notsOpen_30 rfl (by decide) rfl ?_
        refine a_iinc (j := 1) (z' := ((i + 1 : Nat) : Int)) (lv' := [(2, vI ((i + 1 : Nat) : Int)), (1, vI (m + 1)), (0, vA 123)]) dX9_notsOpen_31 rfl (w_okN (by omega) (by omega) (by omega)) (by decide) rfl ?_
        refine a_goto (tgt := 4) dX9_notsOpen_34 (by decide) ?_
        refine a_lv (lv' := [(1, vI (m + 1)), (2, vI (((i + 1) : Nat) : Int)), (0, vA 123)]) (by intro q hq; simp only [List.mem_cons, List.not_mem_nil, or_false] at hq ⊢; rcases hq with rfl | rfl | rfl <;> simp) (ih (i + 1) (m + 1) (by omega) (by omega) (by have e := wt_drop hW (show i < W.length by omega); rw [e]; first | (rw [(by assumption : h 141 i = -10), ntc_not]; omega) | (rw [ntc_sg (by assumption)]; omega)))
theorem c_nts {γ : GT} {d : Nat} {W : List Int} {h : Nat → Nat → Int} {τ : List AC} {Post : Option AV → List AC → Prop} (e30 : h 123 30 = ((W.length : Nat) : Int)) (hW : wtS (h 141) W) (hw : W.length ≤ 96) (kQ : Post (some (vI ((ntc W : Nat) : Int))) (mk h τ)) : Cj γ mX9_notsOpen d 0 0 [vA 123] (mk h τ) Post := by
  refine c_of (by decide) (Nat.le_of_ble_eq_true rfl) ?_
  show Aj γ mX9_notsOpen d 0 0 Post 0 [(0, vA 123)] [] (mk h τ)
  refine a_iconst dX9_notsOpen_0 ⟨by decide, by decide⟩ ?_
  refine a_istore_n (lv' := [(1, vI 0), (0, vA 123)]) dX9_notsOpen_1 rfl (by decide) rfl ?_
  refine a_iconst dX9_notsOpen_2 ⟨by decide, by decide⟩ ?_
  refine a_istore_n (lv' := [(2, vI 0), (1, vI 0), (0, vA 123)]) dX9_notsOpen_3 rfl (by decide) rfl ?_
  exact a_lv (lv' := [(1, vI 0), (2, vI ((0 : Nat) : Int)), (0, vA 123)]) (by intro q hq; simp only [List.mem_cons, List.not_mem_nil, or_false] at hq ⊢; rcases hq with rfl | rfl | rfl <;> simp) (l_nts e30 hW hw kQ (W.length + 1) 0 0 (by omega) (by omega) (by rw [Nat.sub_zero, List.drop_length]; rfl))
theorem c_set {γ : GT} {d : Nat} {l : Int} {V p C : List Int} {h : Nat → Nat → Int} {τ : List AC} {Post : Option AV → List AC → Prop} (hd : 1 ≤ d) (hV : ∀ (y : Int) (r : List Int), V = y :: r → y = -11 ∨ rkF y < l) (q : STk h (p ++ V) C) (hb : (p ++ V).length + C.length ≤ 96) (hp : ∀ x : Int, x ∈ p → ¬ x = -11 ∧ l ≤ rkF x) (kQ : ∀ h', Fr [123, 140] h h' → (∀ k, k ≠ 27 → k ≠ 30 → h' 123 k = h 123 k) → STk h' V (C ++ p) → Post none (mk h' τ)) : Cj γ mX9_settle d 0 0 [vA 123, vI l] (mk h τ) Post := by
  refine c_of (by decide) (Nat.le_of_ble_eq_true rfl) ?_
  exact l_set hd hV p C h q hb hp kQ
/-- what waits are signs -/
def wrW (W : List Int) : Prop := ∀ x : Int, x ∈ W → -11 ≤ x ∧ x ≤ -1
/-- nots stand on top of their bracket's signs only -/
def okW : Bool → List Int → Prop
  | _, [] => True
  | b, x :: r => if x = -11 then okW true r else if x = -10 then (b = true ∧ okW true r) else okW false r
theorem okW_up : ∀ {W : List Int}, okW false W → okW true W
  | [], _ => trivial
  | x :: r, h => by
    unfold okW at h ⊢
    by_cases c1 : x = -11
    · rw [if_pos c1] at h ⊢; exact h
    · rw [if_neg c1] at h ⊢
      by_cases c2 : x = -10
      · rw [if_pos c2] at h; exact nomatch h.1
      · rw [if_neg c2] at h ⊢; exact h
theorem okW_dn : ∀ {W : List Int}, okW true W → okW false (W.dropWhile isNt)
  | [], _ => trivial
  | x :: r, h => by
    by_cases c2 : x = -10
    · subst c2
      have e : (-10 :: r).dropWhile isNt = r.dropWhile isNt := rfl
      rw [e]
      unfold okW at h
      rw [if_neg (by decide), if_pos rfl] at h
      exact okW_dn h.2
    · have e : isNt x = false := decide_eq_false c2
      have e2 : (x :: r).dropWhile isNt = x :: r := by rw [List.dropWhile_cons]; simp [e]
      rw [e2]
      unfold okW at h ⊢
      by_cases c1 : x = -11
      · rw [if_pos c1] at h ⊢; exact h
      · rw [if_neg c1, if_neg c2] at h ⊢; exact h
theorem okW_p : ∀ {p W : List Int}, (∀ x : Int, x ∈ p → ¬ x = -11) → okW false (p ++ W) → okW false W ∧ ntc p = 0
  | [], _, _, h => ⟨h, rfl⟩
  | x :: p, W, hp, h => by
    have c1 := hp x List.mem_cons_self
    have h' : (if x = -11 then okW true (p ++ W) else if x = -10 then (false = true ∧ okW true (p ++ W)) else okW false (p ++ W)) := h
    rw [if_neg c1] at h'
    by_cases c2 : x = -10
    · rw [if_pos c2] at h'; exact nomatch h'.1
    · rw [if_neg c2] at h'
      have q := okW_p (fun y hy => hp y (List.mem_cons_of_mem _ hy)) h'
      exact ⟨q.1, by rw [ntc_sg c2]; exact q.2⟩
theorem okW_o {b : Bool} {W : List Int} : okW b (-11 :: W) ↔ okW true W := by
  show (if (-11 : Int) = -11 then _ else _) ↔ _
  rw [if_pos rfl]
theorem okW_n {W : List Int} : okW true (-10 :: W) ↔ okW true W := by
  show (if (-10 : Int) = -11 then _ else if (-10 : Int) = -10 then (true = true ∧ okW true W) else _) ↔ _
  rw [if_neg (by decide), if_pos rfl]
  exact ⟨fun q => q.2, fun q => ⟨rfl, q⟩⟩
theorem okW_s {b : Bool} {x : Int} {W : List Int} (h1 : ¬ x = -11) (h2 : ¬ x = -10) : okW b (x :: W) ↔ okW false W := by
  show (if x = -11 then _ else if x = -10 then _ else okW false W) ↔ _
  rw [if_neg h1, if_neg h2]
theorem ntc_app {p W : List Int} : ntc (p ++ W) = ntc p + ntc W := List.countP_append
theorem tw_all : ∀ {W : List Int} (x : Int), x ∈ W.takeWhile isNt → x = -10
  | [], x, hx => absurd hx List.not_mem_nil
  | y :: W, x, hx => by
    rw [List.takeWhile_cons] at hx
    by_cases c : y = -10
    · have e : isNt y = true := decide_eq_true c
      rw [if_pos e] at hx
      rcases List.mem_cons.mp hx with q | q
      · exact q.trans c
      · exact tw_all x q
    · have e : isNt y = false := decide_eq_false c
      rw [e] at hx
      exact absurd hx List.not_mem_nil
theorem dw_hd {W : List Int} (hr : wrW W) : ∀ (y : Int) (r : List Int), W.dropWhile isNt = y :: r → y = -11 ∨ rkF y < 6 := by
  intro y r e
  have hm : y ∈ W := List.dropWhile_sublist (p := isNt) |>.subset (by rw [e]; exact List.mem_cons_self)
  have h := hr y hm
  have hn : ¬ y = -10 := by
    intro c
    have q := List.head?_dropWhile_not isNt W
    rw [e] at q
    subst c
    exact absurd (show isNt (-10) = false from q) (by decide)
  by_cases c : y = -11
  · exact Or.inl c
  · right
    unfold rkF
    repeat' split
    all_goals omega
theorem wrW_dw {W : List Int} (hr : wrW W) : wrW (W.dropWhile isNt) := fun x hx => hr x ((List.dropWhile_sublist (p := isNt)).subset hx)
theorem tdw {W : List Int} : W.takeWhile isNt ++ W.dropWhile isNt = W := List.takeWhile_append_dropWhile
/-- the reference's reader: token t, what waits W, codes C, open o, tested T -/
def RES (B : Nat → Int) (n K : Nat) (h0 h : Nat → Nat → Int) (t : Tk) (W C : List Int) (o : Nat) (T : Nat → Bool) : Prop := RTk B n h t ∧ STk h W C ∧ h 123 23 = ((K : Nat) : Int) ∧ h 123 28 = ((lvs C : Nat) : Int) ∧ (∀ j, j ≤ o → h 142 j = if T j = true then 1 else 0) ∧ Fr [123, 140, 141, 142] h0 h ∧ (∀ k, (k < 18 ∨ 23 < k) → k ≠ 27 → k ≠ 28 → k ≠ 30 → h 123 k = h0 123 k)
theorem RTk_e {B : Nat → Int} {n : Nat} {h h' : Nat → Nat → Int} {t : Tk} (q : RTk B n h t) (e1 : ∀ k, 17 ≤ k → k ≤ 22 → h' 123 k = h 123 k) (e2 : h' 137 = h 137) : RTk B n h' t := by
  unfold RTk
  rw [e1 17 (by decide) (by decide), e1 18 (by decide) (by decide), e1 19 (by decide) (by decide), e1 20 (by decide) (by decide), e1 21 (by decide) (by decide), e1 22 (by decide) (by decide), e2]
  exact q
theorem lvs_app {C p : List Int} (h : ∀ x : Int, x ∈ p → x < 0) : lvs (C ++ p) = lvs C := by
  unfold lvs
  rw [List.countP_append]
  have e : List.countP (fun x : Int => decide (0 ≤ x)) p = 0 := by
    rw [List.countP_eq_zero]
    intro x hx
    have := h x hx
    simp
    omega
  omega
theorem c_goR {γ : GT} {d : Nat} {B : Nat → Int} {n K o : Nat} {h0 : Nat → Nat → Int} {t : Tk} {W C : List Int} {T : Nat → Bool} {h : Nat → Nat → Int} {τ : List AC} {Post : Option AV → List AC → Prop} (hd : 2 ≤ d) (hm : n ≤ 96) (hBr : ∀ k, 0 ≤ B k ∧ B k ≤ 255) (hK3 : K < 3) (r : RES B n K h0 h t W C o T) (hk : t.1 = 1 ∨ t.1 = 2 ∨ t.1 = 3) (kQ : ∀ h', RES B n K h0 h' (nxt B n t) W C o T → Post none (mk h' τ)) : Cj γ mX9_go d 0 0 [vA 123] (mk h τ) Post := by
  obtain ⟨⟨t1, t2, t3, t4, t5, t6, t7, t8, t9, t10⟩, ⟨s1, s2, s3, s4⟩, r3, r4, r5, r6, r7⟩ := r
  refine c_X9_go (B := B) (t := t) hd t1 hm t2 hBr t3 t8 (fun q => t9 (by omega)) t10.2.1 (fun h' hF hk hT => kQ h' ⟨hT, ⟨(hk 30 (by decide)).trans s1, (hk 27 (by decide)).trans s2, ?_, ?_⟩, (hk 23 (by decide)).trans r3, (hk 28 (by decide)).trans r4, ?_, Fr_t r6 (Fr_m (by decide) hF), fun k h1 h2 h3 h4 => (hk k (by omega)).trans (r7 k h1 h2 h3 h4)⟩)
  · rw [hF 141 (by decide)]; exact s3
  · rw [hF 140 (by decide)]; exact s4
  · rw [hF 142 (by decide)]; exact r5
theorem c_setR {γ : GT} {d : Nat} {B : Nat → Int} {n K o : Nat} {h0 : Nat → Nat → Int} {t : Tk} {p V C : List Int} {T : Nat → Bool} {l : Int} {h : Nat → Nat → Int} {τ : List AC} {Post : Option AV → List AC → Prop} (hd : 1 ≤ d) (r : RES B n K h0 h t (p ++ V) C o T) (hb : (p ++ V).length + C.length ≤ 96) (hr : wrW (p ++ V)) (hp : ∀ x : Int, x ∈ p → ¬ x = -11 ∧ l ≤ rkF x) (hV : ∀ (y : Int) (r : List Int), V = y :: r → y = -11 ∨ rkF y < l) (kQ : ∀ h', RES B n K h0 h' t V (C ++ p) o T → Post none (mk h' τ)) : Cj γ mX9_settle d 0 0 [vA 123, vI l] (mk h τ) Post := by
  obtain ⟨r1, r2, r3, r4, r5, r6, r7⟩ := r
  refine c_set hd hV r2 hb hp (fun h' hF hk s => kQ h' ⟨RTk_e r1 (fun k h1 h2 => hk k (by omega) (by omega)) (hF 137 (by decide)), s, (hk 23 (by decide) (by decide)).trans r3, ?_, ?_, Fr_t r6 (Fr_m (by decide) hF), fun k h1 h2 h3 h4 => (hk k h2 h4).trans (r7 k h1 h2 h3 h4)⟩)
  · rw [lvs_app (fun x hx => by have := hr x (List.mem_append_left _ hx); omega)]
    exact (hk 28 (by decide) (by decide)).trans r4
  · rw [hF 142 (by decide)]; exact r5
theorem c_ntR {γ : GT} {d : Nat} {B : Nat → Int} {n K o : Nat} {h0 : Nat → Nat → Int} {t : Tk} {W C : List Int} {T : Nat → Bool} {h : Nat → Nat → Int} {τ : List AC} {Post : Option AV → List AC → Prop} (r : RES B n K h0 h t W C o T) (hb : W.length ≤ 96) (kQ : Post (some (vI ((ntc W : Nat) : Int))) (mk h τ)) : Cj γ mX9_notsOpen d 0 0 [vA 123] (mk h τ) Post := c_nts r.2.1.1 r.2.1.2.2.1 hb kQ
theorem c_sgR {γ : GT} {d : Nat} {B : Nat → Int} {n K o : Nat} {h0 : Nat → Nat → Int} {t : Tk} {W C : List Int} {T : Nat → Bool} {h : Nat → Nat → Int} {τ : List AC} {Post : Option AV → List AC → Prop} (r : RES B n K h0 h t W C o T) (kQ : Post (some (vI (sgT B t))) (mk h τ)) : Cj γ mX9_signHere d 0 0 [vA 123] (mk h τ) Post := by
  refine c_X9_signHere (Nat.zero_le _) r.1.2.2.2.2.1 rfl ?_
  have e : (if rtk t = 3 then sgF (h 123 21) else 0) = sgT B t := by
    unfold sgT
    by_cases c : t.1 = 3
    · rw [if_pos ((rtk_3 t).mpr c), if_pos c, r.1.2.2.2.2.2.1 (Or.inr c)]
    · rw [if_neg (fun q => c ((rtk_3 t).mp q)), if_neg c]
  rw [e]
  exact kQ
theorem RES_push {B : Nat → Int} {n K o : Nat} {h0 : Nat → Nat → Int} {t : Tk} {W C : List Int} {T : Nat → Bool} {h : Nat → Nat → Int} {x : Int} (r : RES B n K h0 h t W C o T) : RES B n K h0 (up2 (up2 h 141 W.length x) 123 30 (((W.length : Nat) : Int) + 1)) t (x :: W) C o T := by
  obtain ⟨r1, ⟨s1, s2, s3, s4⟩, r3, r4, r5, r6, r7⟩ := r
  refine ⟨RTk_e r1 (fun k h1 h2 => (up2_ne (by omega)).trans (up2_ne (by omega))) ((up2_row (by decide)).trans (up2_row (by decide))), ⟨up2_at, ((up2_ne (by omega)).trans (up2_ne (by omega))).trans s2, ⟨(up2_ne (by omega)).trans up2_at, wtS_e (fun k hk => (up2_ne (by omega)).trans (up2_ne (by omega))) s3⟩, ?_⟩, ((up2_ne (by omega)).trans (up2_ne (by omega))).trans r3, ((up2_ne (by omega)).trans (up2_ne (by omega))).trans r4, ?_, Fr_u (by decide) (Fr_u (by decide) r6), fun k h1 h2 h3 h4 => ((up2_ne (by omega)).trans (up2_ne (by omega))).trans (r7 k h1 h2 h3 h4)⟩
  · rw [(up2_row (by decide)).trans (up2_row (by decide))]; exact s4
  · rw [(up2_row (by decide)).trans (up2_row (by decide))]; exact r5
theorem RES_pop {B : Nat → Int} {n K o : Nat} {h0 : Nat → Nat → Int} {t : Tk} {W C : List Int} {T : Nat → Bool} {h : Nat → Nat → Int} {x : Int} (r : RES B n K h0 h t (x :: W) C o T) : RES B n K h0 (up2 h 123 30 ((W.length : Nat) : Int)) t W C o T := by
  obtain ⟨r1, ⟨s1, s2, s3, s4⟩, r3, r4, r5, r6, r7⟩ := r
  refine ⟨RTk_e r1 (fun k h1 h2 => up2_ne (by omega)) (up2_row (by decide)), ⟨up2_at, (up2_ne (by omega)).trans s2, ?_, ?_⟩, (up2_ne (by omega)).trans r3, (up2_ne (by omega)).trans r4, ?_, Fr_u (by decide) r6, fun k h1 h2 h3 h4 => (up2_ne (by omega)).trans (r7 k h1 h2 h3 h4)⟩
  · rw [up2_row (by decide)]; exact s3.2
  · rw [up2_row (by decide)]; exact s4
  · rw [up2_row (by decide)]; exact r5
theorem RES_o {B : Nat → Int} {n K o o' : Nat} {h0 h : Nat → Nat → Int} {t : Tk} {W C : List Int} {T : Nat → Bool} (ho : o' ≤ o) (r : RES B n K h0 h t W C o T) : RES B n K h0 h t W C o' T := by
  obtain ⟨r1, r2, r3, r4, r5, r6, r7⟩ := r
  exact ⟨r1, r2, r3, r4, fun j hj => r5 j (by omega), r6, r7⟩
theorem RES_t {B : Nat → Int} {n K o o' : Nat} {h0 h : Nat → Nat → Int} {t : Tk} {W C : List Int} {T T' : Nat → Bool} {v : Int} (r : RES B n K h0 h t W C o T) (ho : o' ≤ o + 1) (hv : v = if T' o' = true then 1 else 0) (hT : ∀ j, j ≠ o' → T' j = T j) : RES B n K h0 (up2 h 142 o' v) t W C o' T' := by
  obtain ⟨r1, ⟨s1, s2, s3, s4⟩, r3, r4, r5, r6, r7⟩ := r
  refine ⟨RTk_e r1 (fun k h1 h2 => up2_ne (by omega)) (up2_row (by decide)), ⟨(up2_ne (by omega)).trans s1, (up2_ne (by omega)).trans s2, ?_, ?_⟩, (up2_ne (by omega)).trans r3, (up2_ne (by omega)).trans r4, ?_, Fr_u (by decide) r6, fun k h1 h2 h3 h4 => (up2_ne (by omega)).trans (r7 k h1 h2 h3 h4)⟩
  · rw [up2_row (by decide)]; exact s3
  · rw [up2_row (by decide)]; exact s4
  · intro j hj
    by_cases c : j = o'
    · subst c; rw [up2_at]; exact hv
    · rw [up2_ne (by omega), hT j c]
      exact r5 j (by omega)
theorem RES_leaf {B : Nat → Int} {n K o : Nat} {h0 : Nat → Nat → Int} {t : Tk} {W C : List Int} {T : Nat → Bool} {h : Nat → Nat → Int} {x : Int} (hx : 0 ≤ x) (r : RES B n K h0 h t W C o T) : RES B n K h0 (up2 (up2 (up2 h 140 C.length x) 123 27 (((C.length : Nat) : Int) + 1)) 123 28 (((lvs C : Nat) : Int) + 1)) t W (C ++ [x]) o T := by
  obtain ⟨r1, ⟨s1, s2, s3, s4⟩, r3, r4, r5, r6, r7⟩ := r
  refine ⟨RTk_e r1 (fun k h1 h2 => (up2_ne (by omega)).trans ((up2_ne (by omega)).trans (up2_ne (by omega)))) ((up2_row (by decide)).trans ((up2_row (by decide)).trans (up2_row (by decide)))), ⟨((up2_ne (by omega)).trans ((up2_ne (by omega)).trans (up2_ne (by omega)))).trans s1, ((up2_ne (by omega)).trans up2_at).trans (by rw [List.length_append]; rfl), ?_, ?_⟩, ((up2_ne (by omega)).trans ((up2_ne (by omega)).trans (up2_ne (by omega)))).trans r3, up2_at.trans (by rw [lvs_p hx]; rfl), ?_, Fr_u (by decide) (Fr_u (by decide) (Fr_u (by decide) r6)), fun k h1 h2 h3 h4 => ((up2_ne (by omega)).trans ((up2_ne (by omega)).trans (up2_ne (by omega)))).trans (r7 k h1 h2 h3 h4)⟩
  · rw [(up2_row (by decide)).trans ((up2_row (by decide)).trans (up2_row (by decide)))]; exact s3
  · intro k hk
    rw [List.length_append, List.length_singleton] at hk
    by_cases c : k = C.length
    · subst c; rw [(up2_ne (by omega)).trans ((up2_ne (by omega)).trans up2_at), getD_n]
    · rw [(up2_ne (by omega)).trans ((up2_ne (by omega)).trans (up2_ne (by omega))), s4 k (by omega), getD_l (by omega)]
  · rw [(up2_row (by decide)).trans ((up2_row (by decide)).trans (up2_row (by decide)))]; exact r5
