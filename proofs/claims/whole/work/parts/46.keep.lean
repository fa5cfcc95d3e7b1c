theorem cpy_lt {f g : Nat → Int} {n k : Nat} (h : k < n) : cpy f g 0 0 n k = f k := by
  unfold cpy
  rw [if_pos (by omega)]
  congr 1
  omega
set_option maxHeartbeats 8000000 in
theorem l_tfA32 {γ : GT} {d : Nat} {n : Nat} {N : Nat → Int} {h : Nat → Nat → Int} {τ : List AC} {Post : Option AV → List AC → Prop} (hd : 4 ≤ d) (hn : n ≤ 12) (hW : ∀ t : Nat, t < n → trW h (8 + 2 * t) N t) (kE : ∀ h' x, (∀ c, ¬ (39 ≤ c ∧ c < 63) → h' c = h c) → (∀ t : Nat, t < n → trW h' (39 + 2 * t) N t) → Aj γ mX7_takeFrom d 0 0 Post 70 [(2, vI x), (0, vA 32), (1, vA 1)] [] (mk h' τ)) :
    ∀ (f i : Nat) (h1 : Nat → Nat → Int), i ≤ n → n < i + f → (∀ c, ¬ (39 ≤ c ∧ c < 63) → h1 c = h c) → (∀ t : Nat, t < i → trW h1 (39 + 2 * t) N t) → h1 32 3 = ((n : Nat) : Int) → Aj γ mX7_takeFrom d 0 0 Post 41 [(2, vI ((i : Nat) : Int)), (0, vA 32), (1, vA 1)] [] (mk h1 τ) := by
  intro f
  induction f with
  | zero => intro i h1 h1_ h2_; omega
  | succ f ih =>
    intro i h1 h1_ h2_ hq iv i3
    refine a_iload_n (j := 0) dX7_takeFrom_41 rfl rfl ?_
    refine a_aload_n (j := 1) dX7_takeFrom_42 rfl rfl (Nat.le_of_ble_eq_true rfl) ?_
    refine b_get (a := 32) (z := ((n : Nat) : Int)) (t := 0) dX7_takeFrom_43 fwX7_51 (by decide) rfl (by decide) rfl rfl i3 ?_
    refine a_icmp_ge (tgt := 70) dX7_takeFrom_46 (by decide) (fun c46_1 => ?_) (fun c46_1 => ?_)
    · obtain rfl : i = n := (by omega)
      exact kE h1 _ hq iv
    · refine a_aload_n (j := 1) dX7_takeFrom_49 rfl rfl (Nat.le_of_ble_eq_true rfl) ?_
      refine b_getp (a := 32) (p := 34) dX7_takeFrom_50 fwX7_17 (by decide) rfl (by decide) rfl rfl ?_
      refine a_iload_n (j := 0) dX7_takeFrom_53 rfl rfl ?_
      refine b_aaloadp (a := 34) (p := (39 + 2 * i)) i dX7_takeFrom_54 (by decide) rfl qa_18 rfl (by omega) (tr_a (Or.inr rfl : isWd 32) (show i < 12 by omega)) ?_
      refine a_aload_n (j := 2) dX7_takeFrom_55 rfl rfl (Nat.le_of_ble_eq_true rfl) ?_
      refine b_getp (a := 1) (p := 3) dX7_takeFrom_56 fwX7_17 (by decide) rfl (by decide) rfl rfl ?_
      refine a_iload_n (j := 0) dX7_takeFrom_59 rfl rfl ?_
      refine b_aaloadp (a := 3) (p := (8 + 2 * i)) i dX7_takeFrom_60 (by decide) rfl qa_18 rfl (by omega) (tr_a (Or.inl rfl : isWd 1) (show i < 12 by omega)) ?_
      refine b_callV (d' := d - 1) (mc' := 0) (ms' := 0) (mc1 := 0) (ms1 := 0) (st := []) (b := (39 + 2 * i)) [vA (8 + 2 * i)] dX7_takeFrom_61 mwX6_takeFrom lkX7_63 (by have := (tr_w (Or.inr rfl : isWd 32) (show i < 12 by omega)).1; omega) (tr_w (Or.inr rfl : isWd 32) (show i < 12 by omega)).2.1 rc_X6 rfl (Nat.le_of_ble_eq_true rfl) (by omega) rfl rfl (c_X6_takeFrom (v1 := (N (15 + 11 * i))) (v2 := (N (16 + 11 * i))) (v3 := (N (17 + 11 * i))) (v4 := (N (18 + 11 * i))) (v5 := (N (19 + 11 * i))) (v6 := (N (20 + 11 * i))) (v7 := (hsF (N (21 + 11 * i)))) (f8 := (h1 ((8 + 2 * i) + 1))) (f9 := (h1 ((39 + 2 * i) + 1))) (by omega) (tr_w (Or.inr rfl : isWd 32) (show i < 12 by omega)) (tr_w (Or.inl rfl : isWd 1) (show i < 12 by omega)) (by omega) ((congrFun (hq (8 + 2 * i) (by omega)) 0).trans (hW i (by omega)).1) ((congrFun (hq (8 + 2 * i) (by omega)) 1).trans (hW i (by omega)).2.1) ((congrFun (hq (8 + 2 * i) (by omega)) 2).trans (hW i (by omega)).2.2.1) ((congrFun (hq (8 + 2 * i) (by omega)) 3).trans (hW i (by omega)).2.2.2.1) ((congrFun (hq (8 + 2 * i) (by omega)) 4).trans (hW i (by omega)).2.2.2.2.1) ((congrFun (hq (8 + 2 * i) (by omega)) 5).trans (hW i (by omega)).2.2.2.2.2.1) ((congrFun (hq (8 + 2 * i) (by omega)) 6).trans (hW i (by omega)).2.2.2.2.2.2.1) rfl rfl  ?_)
      show Aj γ mX7_takeFrom d 0 0 Post 64 [(2, vI ((i : Nat) : Int)), (0, vA 32), (1, vA 1)] [] (mk (upR (up2 (up2 (up2 (up2 (up2 (up2 (up2 h1 (39 + 2 * i) 0 (N (15 + 11 * i))) (39 + 2 * i) 1 (N (16 + 11 * i))) (39 + 2 * i) 2 (N (17 + 11 * i))) (39 + 2 * i) 3 (N (18 + 11 * i))) (39 + 2 * i) 4 (N (19 + 11 * i))) (39 + 2 * i) 5 (N (20 + 11 * i))) (39 + 2 * i) 6 (hsF (N (21 + 11 * i)))) ((39 + 2 * i) + 1) (cpy (h1 ((8 + 2 * i) + 1)) (h1 ((39 + 2 * i) + 1)) 0 0 4)) τ)
      refine a_iinc (j := 0) (z' := ((i + 1 : Nat) : Int)) (lv' := [(2, vI ((i + 1 : Nat) : Int)), (0, vA 32), (1, vA 1)]) dX7_takeFrom_64 rfl (w_okN (by omega) (by omega) (by omega)) (by decide) rfl ?_
      refine a_goto (tgt := 41) dX7_takeFrom_67 (by decide) ?_
      refine a_lv (lv' := [(2, vI (((i + 1) : Nat) : Int)), (0, vA 32), (1, vA 1)]) (by intro q hq; simp only [List.mem_cons, List.not_mem_nil, or_false] at hq ⊢; rcases hq with rfl | rfl | rfl <;> simp) (ih (i + 1) (upR (up2 (up2 (up2 (up2 (up2 (up2 (up2 h1 (39 + 2 * i) 0 (N (15 + 11 * i))) (39 + 2 * i) 1 (N (16 + 11 * i))) (39 + 2 * i) 2 (N (17 + 11 * i))) (39 + 2 * i) 3 (N (18 + 11 * i))) (39 + 2 * i) 4 (N (19 + 11 * i))) (39 + 2 * i) 5 (N (20 + 11 * i))) (39 + 2 * i) 6 (hsF (N (21 + 11 * i)))) ((39 + 2 * i) + 1) (cpy (h1 ((8 + 2 * i) + 1)) (h1 ((39 + 2 * i) + 1)) 0 0 4)) (by omega) (by omega) (fun c hc => ((upR_rn (by omega)).trans ((up2_row (by omega)).trans ((up2_row (by omega)).trans ((up2_row (by omega)).trans ((up2_row (by omega)).trans ((up2_row (by omega)).trans ((up2_row (by omega)).trans ((up2_row (by omega)).trans rfl)))))))).trans (hq c hc)) (fun t ht => ?_) ((((upR_ne (by omega)).trans ((up2_ne (by omega)).trans ((up2_ne (by omega)).trans ((up2_ne (by omega)).trans ((up2_ne (by omega)).trans ((up2_ne (by omega)).trans ((up2_ne (by omega)).trans ((up2_ne (by omega)).trans i3)))))))))))
      by_cases ct : t = i
      · subst ct; exact ⟨((upR_ne (by omega)).trans ((up2_ne (by omega)).trans ((up2_ne (by omega)).trans ((up2_ne (by omega)).trans ((up2_ne (by omega)).trans ((up2_ne (by omega)).trans ((up2_ne (by omega)).trans up2_at))))))), ((upR_ne (by omega)).trans ((up2_ne (by omega)).trans ((up2_ne (by omega)).trans ((up2_ne (by omega)).trans ((up2_ne (by omega)).trans ((up2_ne (by omega)).trans up2_at)))))), ((upR_ne (by omega)).trans ((up2_ne (by omega)).trans ((up2_ne (by omega)).trans ((up2_ne (by omega)).trans ((up2_ne (by omega)).trans up2_at))))), ((upR_ne (by omega)).trans ((up2_ne (by omega)).trans ((up2_ne (by omega)).trans ((up2_ne (by omega)).trans up2_at)))), ((upR_ne (by omega)).trans ((up2_ne (by omega)).trans ((up2_ne (by omega)).trans up2_at))), ((upR_ne (by omega)).trans ((up2_ne (by omega)).trans up2_at)), ((upR_ne (by omega)).trans up2_at), fun s hs => by rw [upR_r, cpy_lt hs, hq (8 + 2 * t + 1) (by omega)]; exact (hW t (by omega)).2.2.2.2.2.2.2 s hs⟩
      · exact trW_fr ((upR_rn (by omega)).trans ((up2_row (by omega)).trans ((up2_row (by omega)).trans ((up2_row (by omega)).trans ((up2_row (by omega)).trans ((up2_row (by omega)).trans ((up2_row (by omega)).trans ((up2_row (by omega)).trans rfl)))))))) ((upR_rn (by omega)).trans ((up2_row (by omega)).trans ((up2_row (by omega)).trans ((up2_row (by omega)).trans ((up2_row (by omega)).trans ((up2_row (by omega)).trans ((up2_row (by omega)).trans ((up2_row (by omega)).trans rfl)))))))) (iv t (by omega))
set_option maxHeartbeats 8000000 in
theorem l_tfT32 {γ : GT} {d : Nat} {n : Nat} {N : Nat → Int} {h : Nat → Nat → Int} {τ : List AC} {Post : Option AV → List AC → Prop} (hd : 4 ≤ d) (hn : n ≤ 14) (hT : ∀ t : Nat, t < n → ∃ q : Nat, h 4 t = ((154 + q : Nat) : Int) ∧ TX τ N t q) (i5 : h 32 5 = ((n : Nat) : Int)) (kE : ∀ h' x, Fr [35] h h' → (∀ t : Nat, t < n → h' 35 t = h 4 t) → Aj γ mX7_takeFrom d 0 0 Post 106 [(2, vI x), (0, vA 32), (1, vA 1)] [] (mk h' τ)) :
    ∀ (f i : Nat) (h1 : Nat → Nat → Int), i ≤ n → n < i + f → Fr [35] h h1 → (∀ t : Nat, t < i → h1 35 t = h 4 t) → Aj γ mX7_takeFrom d 0 0 Post 80 [(2, vI ((i : Nat) : Int)), (0, vA 32), (1, vA 1)] [] (mk h1 τ) := by
  intro f
  induction f with
  | zero => intro i h1  h1_ h2_; omega
  | succ f ih =>
    intro i h1  h1_ h2_ hF iv
    refine a_iload_n (j := 0) dX7_takeFrom_80 rfl rfl ?_
    refine a_aload_n (j := 1) dX7_takeFrom_81 rfl rfl (Nat.le_of_ble_eq_true rfl) ?_
    refine b_get (a := 32) (z := ((n : Nat) : Int)) (t := 0) dX7_takeFrom_82 fwX7_67 (by decide) rfl (by decide) rfl rfl ((Fr_v hF (by decide)).trans i5) ?_
    refine a_icmp_ge (tgt := 106) dX7_takeFrom_85 (by decide) (fun c85_1 => ?_) (fun c85_1 => ?_)
    · obtain rfl : i = n := (by omega)
      exact kE _ _ hF iv
    · obtain ⟨q, hz, hq4⟩ := hT i (by omega)
      obtain ⟨ft, hft, _⟩ := id hq4
      refine a_aload_n (j := 1) dX7_takeFrom_88 rfl rfl (Nat.le_of_ble_eq_true rfl) ?_
      refine b_getp (a := 32) (p := 35) dX7_takeFrom_89 fwX7_23 (by decide) rfl (by decide) rfl rfl ?_
      refine a_iload_n (j := 0) dX7_takeFrom_92 rfl rfl ?_
      refine a_aload_n (j := 2) dX7_takeFrom_93 rfl rfl (Nat.le_of_ble_eq_true rfl) ?_
      refine b_getp (a := 1) (p := 4) dX7_takeFrom_94 fwX7_23 (by decide) rfl (by decide) rfl rfl ?_
      refine a_iload_n (j := 0) dX7_takeFrom_97 rfl rfl ?_
      refine b_aaload (a := 4) (z := (((154 + q) : Nat) : Int)) i dX7_takeFrom_98 (by decide) rfl qa_17 rfl (by omega) (sp_nil rfl _) ((Fr_v hF (by decide)).trans hz) ?_
      refine b_aastore (a := 35) (b := (154 + q)) (κ' := 4) (n' := 3) (f' := ft) i dX7_takeFrom_99 (by decide) rfl ((mk_dyn q).trans hft) qs_17 rfl (by omega) (sp_nil rfl _) ?_
      refine a_iinc (j := 0) (z' := ((i + 1 : Nat) : Int)) (lv' := [(2, vI ((i + 1 : Nat) : Int)), (0, vA 32), (1, vA 1)]) dX7_takeFrom_100 rfl (w_okN (by omega) (by omega) (by omega)) (by decide) rfl ?_
      refine a_goto (tgt := 80) dX7_takeFrom_103 (by decide) ?_
      refine a_lv (lv' := [(2, vI (((i + 1) : Nat) : Int)), (0, vA 32), (1, vA 1)]) (by intro q hq; simp only [List.mem_cons, List.not_mem_nil, or_false] at hq ⊢; rcases hq with rfl | rfl | rfl <;> simp) (ih (i + 1) (up2 h1 35 i ((154 + q : Nat) : Int))  (by omega) (by omega) (Fr_u (by decide) (Fr_m (by decide) hF)) (fun t ht => by
          by_cases c : t = i
          · subst c; exact up2_at.trans hz.symm
          · exact (up2_ne (by omega)).trans (iv t (by omega))))
set_option maxHeartbeats 16000000 in
theorem c_X7_takeFrom_32 {γ : GT} {d : Nat} {N : Nat → Int} {h : Nat → Nat → Int} {τ : List AC} {Post : Option AV → List AC → Prop} (hd : 4 ≤ d) (hR : WR h τ 1 N) (hX : NX N) (kQ : ∀ h', (∀ c, ¬ (32 ≤ c ∧ c < 63) → h' c = h c) → h' 32 0 = h 1 0 → WR h' τ 32 N → Post none (mk h' τ)) : Cj γ mX7_takeFrom d 0 0 [vA 32, vA 1] (mk h τ) Post := by
  have hs4 := hX.1.1.2.2.2.1
  have hs5 := hX.1.1.2.2.2.2
  have hs6 := hX.1.2.2.2.1
  have hx7 := hX.2.1
  have hx8 := hX.2.2.2.1
  obtain ⟨n5, hn5⟩ : ∃ n : Nat, N 5 = (n : Int) := ⟨Int.toNat (N 5), by omega⟩
  obtain ⟨n6, hn6⟩ : ∃ n : Nat, N 6 = (n : Int) := ⟨Int.toNat (N 6), by omega⟩
  refine c_of (by decide) (Nat.le_of_ble_eq_true rfl) ?_
  show Aj γ mX7_takeFrom d 0 0 Post 0 [(0, vA 32), (1, vA 1)] [] (mk h τ)
  refine a_aload_n (j := 0) dX7_takeFrom_0 rfl rfl (Nat.le_of_ble_eq_true rfl) ?_
  refine a_aload_n (j := 1) dX7_takeFrom_1 rfl rfl (Nat.le_of_ble_eq_true rfl) ?_
  refine b_get (a := 1) (z := h 1 0) (t := 0) dX7_takeFrom_2 fwX7_54 (by decide) rfl (by decide) rfl rfl rfl ?_
  refine b_put (a := 32) (v := vI (h 1 0)) dX7_takeFrom_5 pwX7_54 (fun h => nomatch h) (by decide) rfl (by decide) rfl rfl (fit_int _) ?_
  show Aj γ mX7_takeFrom d 0 0 Post 8 [(0, vA 32), (1, vA 1)] [] (mk (up2 h 32 0 (h 1 0)) τ)
  refine a_aload_n (j := 0) dX7_takeFrom_8 rfl rfl (Nat.le_of_ble_eq_true rfl) ?_
  refine a_aload_n (j := 1) dX7_takeFrom_9 rfl rfl (Nat.le_of_ble_eq_true rfl) ?_
  refine b_get (a := 1) (z := N 4) (t := 0) dX7_takeFrom_10 fwX7_44 (by decide) rfl (by decide) rfl rfl ((up2_ne (by omega)).trans hR.1.1) ?_
  refine b_put (a := 32) (v := vI (N 4)) dX7_takeFrom_13 pwX7_44 (fun h => nomatch h) (by decide) rfl (by decide) rfl rfl (fit_int _) ?_
  show Aj γ mX7_takeFrom d 0 0 Post 16 [(0, vA 32), (1, vA 1)] [] (mk (up2 (up2 h 32 0 (h 1 0)) 32 1 (N 4)) τ)
  refine a_aload_n (j := 1) dX7_takeFrom_16 rfl rfl (Nat.le_of_ble_eq_true rfl) ?_
  refine b_getp (a := 1) (p := 2) dX7_takeFrom_17 fwX7_9 (by decide) rfl (by decide) rfl rfl ?_
  refine a_iconst dX7_takeFrom_20 ⟨by decide, by decide⟩ ?_
  refine a_aload_n (j := 0) dX7_takeFrom_21 rfl rfl (Nat.le_of_ble_eq_true rfl) ?_
  refine b_getp (a := 32) (p := 33) dX7_takeFrom_22 fwX7_9 (by decide) rfl (by decide) rfl rfl ?_
  refine a_iconst dX7_takeFrom_25 ⟨by decide, by decide⟩ ?_
  refine a_bipush dX7_takeFrom_26 ⟨by decide, by decide, by decide⟩ ?_
  refine b_copyR (a := 2) (b := 33) (sp' := 0) (dp := 0) (n := 6) (f := (h 2)) (g := (h 33)) dX7_takeFrom_28 alX7_57 (by decide) (by decide) rfl rfl (sp_nil rfl) (sp_nil rfl) rfl rfl rfl (by decide) (by decide) (Nat.le_of_ble_eq_true rfl) (by omega) ((up2_row (by omega)).trans ((up2_row (by omega)).trans rfl)) ((up2_row (by omega)).trans ((up2_row (by omega)).trans rfl)) ?_
  show Aj γ mX7_takeFrom d 0 0 Post 31 [(0, vA 32), (1, vA 1)] [] (mk (upR (up2 (up2 h 32 0 (h 1 0)) 32 1 (N 4)) 33 (cpy (h 2) (h 33) 0 0 6)) τ)
  refine a_aload_n (j := 0) dX7_takeFrom_31 rfl rfl (Nat.le_of_ble_eq_true rfl) ?_
  refine a_aload_n (j := 1) dX7_takeFrom_32 rfl rfl (Nat.le_of_ble_eq_true rfl) ?_
  refine b_get (a := 1) (z := N 5) (t := 0) dX7_takeFrom_33 fwX7_51 (by decide) rfl (by decide) rfl rfl ((upR_ne (by omega)).trans ((up2_ne (by omega)).trans ((up2_ne (by omega)).trans hR.1.2.1))) ?_
  refine b_put (a := 32) (v := vI (N 5)) dX7_takeFrom_36 pwX7_51 (fun h => nomatch h) (by decide) rfl (by decide) rfl rfl (fit_int _) ?_
  show Aj γ mX7_takeFrom d 0 0 Post 39 [(0, vA 32), (1, vA 1)] [] (mk (up2 (upR (up2 (up2 h 32 0 (h 1 0)) 32 1 (N 4)) 33 (cpy (h 2) (h 33) 0 0 6)) 32 3 (N 5)) τ)
  refine a_iconst dX7_takeFrom_39 ⟨by decide, by decide⟩ ?_
  refine a_istore_n (lv' := [(2, vI 0), (0, vA 32), (1, vA 1)]) dX7_takeFrom_40 rfl (by decide) rfl ?_
  generalize hHH : (up2 (upR (up2 (up2 h 32 0 (h 1 0)) 32 1 (N 4)) 33 (cpy (h 2) (h 33) 0 0 6)) 32 3 (N 5)) = H
  have eH : ∀ c, ¬ (32 ≤ c ∧ c < 39) → H c = h c := fun c hc => (by rw [← hHH]; exact ((up2_row (by omega)).trans ((upR_rn (by omega)).trans ((up2_row (by omega)).trans ((up2_row (by omega)).trans rfl)))))
  have eH0 : H 32 0 = h 1 0 := by rw [← hHH]; exact ((up2_ne (by omega)).trans ((upR_ne (by omega)).trans ((up2_ne (by omega)).trans up2_at)))
  have eH1 : H 32 1 = N 4 := by rw [← hHH]; exact ((up2_ne (by omega)).trans ((upR_ne (by omega)).trans up2_at))
  have eH3 : H 32 3 = N 5 := by rw [← hHH]; exact up2_at
  have eHw : H 33 = (cpy (h 2) (h 33) 0 0 6) := by rw [← hHH]; exact ((up2_row (by omega)).trans upR_r)
  refine a_lv (lv' := [(2, vI ((0 : Nat) : Int)), (0, vA 32), (1, vA 1)]) (by intro q hq; simp only [List.mem_cons, List.not_mem_nil, or_false] at hq ⊢; rcases hq with rfl | rfl | rfl <;> simp) (l_tfA32 (h := H) (n := n5) (N := N) hd (by omega) (fun t ht => trW_fr (eH _ (by omega)) (eH _ (by omega)) (hR.2.2.1 t (by omega))) ?_ (n5 + 1) 0 H (by omega) (by omega) (fun c hc => rfl) (fun t ht => by omega) (eH3.trans hn5))
  intro h7 x7 hq7 a7
  refine a_aload_n (j := 1) dX7_takeFrom_70 rfl rfl (Nat.le_of_ble_eq_true rfl) ?_
  refine a_aload_n (j := 2) dX7_takeFrom_71 rfl rfl (Nat.le_of_ble_eq_true rfl) ?_
  refine b_get (a := 1) (z := N 6) (t := 0) dX7_takeFrom_72 fwX7_67 (by decide) rfl (by decide) rfl rfl ((congrFun (hq7 1 (by omega)) 5).trans ((congrFun (eH 1 (by omega)) 5).trans hR.1.2.2.1)) ?_
  refine b_put (a := 32) (v := vI (N 6)) dX7_takeFrom_75 pwX7_67 (fun h => nomatch h) (by decide) rfl (by decide) rfl rfl (fit_int _) ?_
  show Aj γ mX7_takeFrom d 0 0 Post 78 [(2, vI x7), (0, vA 32), (1, vA 1)] [] (mk (up2 h7 32 5 (N 6)) τ)
  refine a_iconst dX7_takeFrom_78 ⟨by decide, by decide⟩ ?_
  refine a_istore_n (lv' := [(2, vI 0), (0, vA 32), (1, vA 1)]) dX7_takeFrom_79 rfl (by decide) rfl ?_
  generalize hGG : (up2 h7 32 5 (N 6)) = H7
  have fG : ∀ c, ¬ c = 32 → H7 c = h7 c := fun c hc => by rw [← hGG]; exact up2_row hc
  have gG : ∀ k, ¬ k = 5 → H7 32 k = h7 32 k := fun k hk => by rw [← hGG]; exact up2_ne (by omega)
  have g5 : H7 32 5 = N 6 := by rw [← hGG]; exact up2_at
  refine a_lv (lv' := [(2, vI ((0 : Nat) : Int)), (0, vA 32), (1, vA 1)]) (by intro q hq; simp only [List.mem_cons, List.not_mem_nil, or_false] at hq ⊢; rcases hq with rfl | rfl | rfl <;> simp) (l_tfT32 (h := H7) (n := n6) (N := N) hd (by omega) (fun t ht => ?_) (g5.trans hn6) ?_ (n6 + 1) 0 H7 (by omega) (by omega) Fr_r (fun t ht => by omega))
  · rw [fG 4 (by omega), hq7 4 (by omega), eH 4 (by omega)]; exact hR.2.2.2.1 t (by omega)
  · intro h8 x8 hF8 a8
    refine a_aload_n (j := 1) dX7_takeFrom_106 rfl rfl (Nat.le_of_ble_eq_true rfl) ?_
    refine a_aload_n (j := 2) dX7_takeFrom_107 rfl rfl (Nat.le_of_ble_eq_true rfl) ?_
    refine b_get (a := 1) (z := N 7) (t := 0) dX7_takeFrom_108 fwX7_70 (by decide) rfl (by decide) rfl rfl ((Fr_v hF8 (by decide)).trans ((congrFun (fG 1 (by omega)) 7).trans ((congrFun (hq7 1 (by omega)) 7).trans ((congrFun (eH 1 (by omega)) 7).trans hR.1.2.2.2.1)))) ?_
    refine b_put (a := 32) (v := vI (N 7)) dX7_takeFrom_111 pwX7_70 (fun h => nomatch h) (by decide) rfl (by decide) rfl rfl (fit_int _) ?_
    show Aj γ mX7_takeFrom d 0 0 Post 114 [(2, vI x8), (0, vA 32), (1, vA 1)] [] (mk (up2 h8 32 7 (N 7)) τ)
    refine a_aload_n (j := 2) dX7_takeFrom_114 rfl rfl (Nat.le_of_ble_eq_true rfl) ?_
    refine b_getp (a := 1) (p := 5) dX7_takeFrom_115 fwX7_27 (by decide) rfl (by decide) rfl rfl ?_
    refine a_iconst dX7_takeFrom_118 ⟨by decide, by decide⟩ ?_
    refine a_aload_n (j := 1) dX7_takeFrom_119 rfl rfl (Nat.le_of_ble_eq_true rfl) ?_
    refine b_getp (a := 32) (p := 36) dX7_takeFrom_120 fwX7_27 (by decide) rfl (by decide) rfl rfl ?_
    refine a_iconst dX7_takeFrom_123 ⟨by decide, by decide⟩ ?_
    refine a_bipush dX7_takeFrom_124 ⟨by decide, by decide, by decide⟩ ?_
    refine b_copyR (a := 5) (b := 36) (sp' := 0) (dp := 0) (n := 6) (f := (h8 5)) (g := (h8 36)) dX7_takeFrom_126 alX7_57 (by decide) (by decide) rfl rfl (sp_nil rfl) (sp_nil rfl) rfl rfl rfl (by decide) (by decide) (Nat.le_of_ble_eq_true rfl) (by omega) ((up2_row (by omega)).trans rfl) ((up2_row (by omega)).trans rfl) ?_
    show Aj γ mX7_takeFrom d 0 0 Post 129 [(2, vI x8), (0, vA 32), (1, vA 1)] [] (mk (upR (up2 h8 32 7 (N 7)) 36 (cpy (h8 5) (h8 36) 0 0 6)) τ)
    refine a_aload_n (j := 1) dX7_takeFrom_129 rfl rfl (Nat.le_of_ble_eq_true rfl) ?_
    refine a_aload_n (j := 2) dX7_takeFrom_130 rfl rfl (Nat.le_of_ble_eq_true rfl) ?_
    refine b_get (a := 1) (z := N 2) (t := 0) dX7_takeFrom_131 fwX7_73 (by decide) rfl (by decide) rfl rfl ((upR_ne (by omega)).trans ((up2_ne (by omega)).trans ((Fr_v hF8 (by decide)).trans ((congrFun (fG 1 (by omega)) 9).trans ((congrFun (hq7 1 (by omega)) 9).trans ((congrFun (eH 1 (by omega)) 9).trans hR.1.2.2.2.2.1)))))) ?_
    refine b_put (a := 32) (v := vI (N 2)) dX7_takeFrom_134 pwX7_73 (fun h => nomatch h) (by decide) rfl (by decide) rfl rfl (fit_int _) ?_
    show Aj γ mX7_takeFrom d 0 0 Post 137 [(2, vI x8), (0, vA 32), (1, vA 1)] [] (mk (up2 (upR (up2 h8 32 7 (N 7)) 36 (cpy (h8 5) (h8 36) 0 0 6)) 32 9 (N 2)) τ)
    refine a_aload_n (j := 1) dX7_takeFrom_137 rfl rfl (Nat.le_of_ble_eq_true rfl) ?_
    refine a_aload_n (j := 2) dX7_takeFrom_138 rfl rfl (Nat.le_of_ble_eq_true rfl) ?_
    refine b_get (a := 1) (z := N 3) (t := 0) dX7_takeFrom_139 fwX7_30 (by decide) rfl (by decide) rfl rfl ((up2_ne (by omega)).trans ((upR_ne (by omega)).trans ((up2_ne (by omega)).trans ((Fr_v hF8 (by decide)).trans ((congrFun (fG 1 (by omega)) 10).trans ((congrFun (hq7 1 (by omega)) 10).trans ((congrFun (eH 1 (by omega)) 10).trans hR.1.2.2.2.2.2.1))))))) ?_
    refine b_put (a := 32) (v := vI (N 3)) dX7_takeFrom_142 pwX7_30 (fun h => nomatch h) (by decide) rfl (by decide) rfl rfl (fit_int _) ?_
    show Aj γ mX7_takeFrom d 0 0 Post 145 [(2, vI x8), (0, vA 32), (1, vA 1)] [] (mk (up2 (up2 (upR (up2 h8 32 7 (N 7)) 36 (cpy (h8 5) (h8 36) 0 0 6)) 32 9 (N 2)) 32 10 (N 3)) τ)
    refine a_aload_n (j := 1) dX7_takeFrom_145 rfl rfl (Nat.le_of_ble_eq_true rfl) ?_
    refine a_aload_n (j := 2) dX7_takeFrom_146 rfl rfl (Nat.le_of_ble_eq_true rfl) ?_
    refine b_get (a := 1) (z := N 1) (t := 0) dX7_takeFrom_147 fwX7_76 (by decide) rfl (by decide) rfl rfl ((up2_ne (by omega)).trans ((up2_ne (by omega)).trans ((upR_ne (by omega)).trans ((up2_ne (by omega)).trans ((Fr_v hF8 (by decide)).trans ((congrFun (fG 1 (by omega)) 11).trans ((congrFun (hq7 1 (by omega)) 11).trans ((congrFun (eH 1 (by omega)) 11).trans hR.1.2.2.2.2.2.2.1)))))))) ?_
    refine b_put (a := 32) (v := vI (N 1)) dX7_takeFrom_150 pwX7_76 (fun h => nomatch h) (by decide) rfl (by decide) rfl rfl (fit_int _) ?_
    show Aj γ mX7_takeFrom d 0 0 Post 153 [(2, vI x8), (0, vA 32), (1, vA 1)] [] (mk (up2 (up2 (up2 (upR (up2 h8 32 7 (N 7)) 36 (cpy (h8 5) (h8 36) 0 0 6)) 32 9 (N 2)) 32 10 (N 3)) 32 11 (N 1)) τ)
    refine a_aload_n (j := 1) dX7_takeFrom_153 rfl rfl (Nat.le_of_ble_eq_true rfl) ?_
    refine a_aload_n (j := 2) dX7_takeFrom_154 rfl rfl (Nat.le_of_ble_eq_true rfl) ?_
    refine b_get (a := 1) (z := N 8) (t := 0) dX7_takeFrom_155 fwX7_79 (by decide) rfl (by decide) rfl rfl ((up2_ne (by omega)).trans ((up2_ne (by omega)).trans ((up2_ne (by omega)).trans ((upR_ne (by omega)).trans ((up2_ne (by omega)).trans ((Fr_v hF8 (by decide)).trans ((congrFun (fG 1 (by omega)) 12).trans ((congrFun (hq7 1 (by omega)) 12).trans ((congrFun (eH 1 (by omega)) 12).trans hR.1.2.2.2.2.2.2.2.1))))))))) ?_
    refine b_put (a := 32) (v := vI (N 8)) dX7_takeFrom_158 pwX7_79 (fun h => nomatch h) (by decide) rfl (by decide) rfl rfl (fit_int _) ?_
    show Aj γ mX7_takeFrom d 0 0 Post 161 [(2, vI x8), (0, vA 32), (1, vA 1)] [] (mk (up2 (up2 (up2 (up2 (upR (up2 h8 32 7 (N 7)) 36 (cpy (h8 5) (h8 36) 0 0 6)) 32 9 (N 2)) 32 10 (N 3)) 32 11 (N 1)) 32 12 (N 8)) τ)
    refine a_aload_n (j := 2) dX7_takeFrom_161 rfl rfl (Nat.le_of_ble_eq_true rfl) ?_
    refine b_getp (a := 1) (p := 6) dX7_takeFrom_162 fwX7_34 (by decide) rfl (by decide) rfl rfl ?_
    refine a_iconst dX7_takeFrom_165 ⟨by decide, by decide⟩ ?_
    refine a_aload_n (j := 1) dX7_takeFrom_166 rfl rfl (Nat.le_of_ble_eq_true rfl) ?_
    refine b_getp (a := 32) (p := 37) dX7_takeFrom_167 fwX7_34 (by decide) rfl (by decide) rfl rfl ?_
    refine a_iconst dX7_takeFrom_170 ⟨by decide, by decide⟩ ?_
    refine a_bipush dX7_takeFrom_171 ⟨by decide, by decide, by decide⟩ ?_
    refine b_copyR (a := 6) (b := 37) (sp' := 0) (dp := 0) (n := 10) (f := (h8 6)) (g := (h8 37)) dX7_takeFrom_173 alX7_57 (by decide) (by decide) rfl rfl (sp_nil rfl) (sp_nil rfl) rfl rfl rfl (by decide) (by decide) (Nat.le_of_ble_eq_true rfl) (by omega) ((up2_row (by omega)).trans ((up2_row (by omega)).trans ((up2_row (by omega)).trans ((up2_row (by omega)).trans ((upR_rn (by omega)).trans ((up2_row (by omega)).trans rfl)))))) ((up2_row (by omega)).trans ((up2_row (by omega)).trans ((up2_row (by omega)).trans ((up2_row (by omega)).trans ((upR_rn (by omega)).trans ((up2_row (by omega)).trans rfl)))))) ?_
    show Aj γ mX7_takeFrom d 0 0 Post 176 [(2, vI x8), (0, vA 32), (1, vA 1)] [] (mk (upR (up2 (up2 (up2 (up2 (upR (up2 h8 32 7 (N 7)) 36 (cpy (h8 5) (h8 36) 0 0 6)) 32 9 (N 2)) 32 10 (N 3)) 32 11 (N 1)) 32 12 (N 8)) 37 (cpy (h8 6) (h8 37) 0 0 10)) τ)
    refine a_aload_n (j := 2) dX7_takeFrom_176 rfl rfl (Nat.le_of_ble_eq_true rfl) ?_
    refine b_getp (a := 1) (p := 7) dX7_takeFrom_177 fwX7_37 (by decide) rfl (by decide) rfl rfl ?_
    refine a_iconst dX7_takeFrom_180 ⟨by decide, by decide⟩ ?_
    refine a_aload_n (j := 1) dX7_takeFrom_181 rfl rfl (Nat.le_of_ble_eq_true rfl) ?_
    refine b_getp (a := 32) (p := 38) dX7_takeFrom_182 fwX7_37 (by decide) rfl (by decide) rfl rfl ?_
    refine a_iconst dX7_takeFrom_185 ⟨by decide, by decide⟩ ?_
    refine a_bipush dX7_takeFrom_186 ⟨by decide, by decide, by decide⟩ ?_
    refine b_copyR (a := 7) (b := 38) (sp' := 0) (dp := 0) (n := 10) (f := (h8 7)) (g := (h8 38)) dX7_takeFrom_188 alX7_57 (by decide) (by decide) rfl rfl (sp_nil rfl) (sp_nil rfl) rfl rfl rfl (by decide) (by decide) (Nat.le_of_ble_eq_true rfl) (by omega) ((upR_rn (by omega)).trans ((up2_row (by omega)).trans ((up2_row (by omega)).trans ((up2_row (by omega)).trans ((up2_row (by omega)).trans ((upR_rn (by omega)).trans ((up2_row (by omega)).trans rfl))))))) ((upR_rn (by omega)).trans ((up2_row (by omega)).trans ((up2_row (by omega)).trans ((up2_row (by omega)).trans ((up2_row (by omega)).trans ((upR_rn (by omega)).trans ((up2_row (by omega)).trans rfl))))))) ?_
    show Aj γ mX7_takeFrom d 0 0 Post 191 [(2, vI x8), (0, vA 32), (1, vA 1)] [] (mk (upR (upR (up2 (up2 (up2 (up2 (upR (up2 h8 32 7 (N 7)) 36 (cpy (h8 5) (h8 36) 0 0 6)) 32 9 (N 2)) 32 10 (N 3)) 32 11 (N 1)) 32 12 (N 8)) 37 (cpy (h8 6) (h8 37) 0 0 10)) 38 (cpy (h8 7) (h8 38) 0 0 10)) τ)
    refine a_aload_n (j := 1) dX7_takeFrom_191 rfl rfl (Nat.le_of_ble_eq_true rfl) ?_
    refine a_aload_n (j := 2) dX7_takeFrom_192 rfl rfl (Nat.le_of_ble_eq_true rfl) ?_
    refine b_get (a := 1) (z := N 0) (t := 0) dX7_takeFrom_193 fwX7_40 (by decide) rfl (by decide) rfl rfl ((upR_ne (by omega)).trans ((upR_ne (by omega)).trans ((up2_ne (by omega)).trans ((up2_ne (by omega)).trans ((up2_ne (by omega)).trans ((up2_ne (by omega)).trans ((upR_ne (by omega)).trans ((up2_ne (by omega)).trans ((Fr_v hF8 (by decide)).trans ((congrFun (fG 1 (by omega)) 15).trans ((congrFun (hq7 1 (by omega)) 15).trans ((congrFun (eH 1 (by omega)) 15).trans hR.1.2.2.2.2.2.2.2.2)))))))))))) ?_
    refine b_put (a := 32) (v := vI (N 0)) dX7_takeFrom_196 pwX7_40 (fun h => nomatch h) (by decide) rfl (by decide) rfl rfl (fit_int _) ?_
    show Aj γ mX7_takeFrom d 0 0 Post 199 [(2, vI x8), (0, vA 32), (1, vA 1)] [] (mk (up2 (upR (upR (up2 (up2 (up2 (up2 (upR (up2 h8 32 7 (N 7)) 36 (cpy (h8 5) (h8 36) 0 0 6)) 32 9 (N 2)) 32 10 (N 3)) 32 11 (N 1)) 32 12 (N 8)) 37 (cpy (h8 6) (h8 37) 0 0 10)) 38 (cpy (h8 7) (h8 38) 0 0 10)) 32 15 (N 0)) τ)
    exact a_vret dX7_takeFrom_199 rfl (by
        have hfr : ∀ c, ¬ (32 ≤ c ∧ c < 63) → (up2 (upR (upR (up2 (up2 (up2 (up2 (upR (up2 h8 32 7 (N 7)) 36 (cpy (h8 5) (h8 36) 0 0 6)) 32 9 (N 2)) 32 10 (N 3)) 32 11 (N 1)) 32 12 (N 8)) 37 (cpy (h8 6) (h8 37) 0 0 10)) 38 (cpy (h8 7) (h8 38) 0 0 10)) 32 15 (N 0)) c = h c := fun c hc => ((up2_row (by omega)).trans ((upR_rn (by omega)).trans ((upR_rn (by omega)).trans ((up2_row (by omega)).trans ((up2_row (by omega)).trans ((up2_row (by omega)).trans ((up2_row (by omega)).trans ((upR_rn (by omega)).trans ((up2_row (by omega)).trans rfl))))))))).trans ((hF8 c (by simp only [List.mem_cons, List.not_mem_nil, or_false]; omega)).trans ((fG c (by omega)).trans ((hq7 c (by omega)).trans (eH c (by omega)))))
        refine kQ _ hfr (((up2_ne (by omega)).trans ((upR_ne (by omega)).trans ((upR_ne (by omega)).trans ((up2_ne (by omega)).trans ((up2_ne (by omega)).trans ((up2_ne (by omega)).trans ((up2_ne (by omega)).trans ((upR_ne (by omega)).trans ((up2_ne (by omega)).trans ((Fr_v hF8 (by decide)).trans ((gG 0 (by omega)).trans ((congrFun (hq7 32 (by omega)) 0).trans eH0))))))))))))) ⟨⟨((up2_ne (by omega)).trans ((upR_ne (by omega)).trans ((upR_ne (by omega)).trans ((up2_ne (by omega)).trans ((up2_ne (by omega)).trans ((up2_ne (by omega)).trans ((up2_ne (by omega)).trans ((upR_ne (by omega)).trans ((up2_ne (by omega)).trans ((Fr_v hF8 (by decide)).trans ((gG 1 (by omega)).trans ((congrFun (hq7 32 (by omega)) 1).trans eH1)))))))))))), ((up2_ne (by omega)).trans ((upR_ne (by omega)).trans ((upR_ne (by omega)).trans ((up2_ne (by omega)).trans ((up2_ne (by omega)).trans ((up2_ne (by omega)).trans ((up2_ne (by omega)).trans ((upR_ne (by omega)).trans ((up2_ne (by omega)).trans ((Fr_v hF8 (by decide)).trans ((gG 3 (by omega)).trans ((congrFun (hq7 32 (by omega)) 3).trans eH3)))))))))))), ((up2_ne (by omega)).trans ((upR_ne (by omega)).trans ((upR_ne (by omega)).trans ((up2_ne (by omega)).trans ((up2_ne (by omega)).trans ((up2_ne (by omega)).trans ((up2_ne (by omega)).trans ((upR_ne (by omega)).trans ((up2_ne (by omega)).trans ((Fr_v hF8 (by decide)).trans g5)))))))))), ((up2_ne (by omega)).trans ((upR_ne (by omega)).trans ((upR_ne (by omega)).trans ((up2_ne (by omega)).trans ((up2_ne (by omega)).trans ((up2_ne (by omega)).trans ((up2_ne (by omega)).trans ((upR_ne (by omega)).trans up2_at)))))))), ((up2_ne (by omega)).trans ((upR_ne (by omega)).trans ((upR_ne (by omega)).trans ((up2_ne (by omega)).trans ((up2_ne (by omega)).trans ((up2_ne (by omega)).trans up2_at)))))), ((up2_ne (by omega)).trans ((upR_ne (by omega)).trans ((upR_ne (by omega)).trans ((up2_ne (by omega)).trans ((up2_ne (by omega)).trans up2_at))))), ((up2_ne (by omega)).trans ((upR_ne (by omega)).trans ((upR_ne (by omega)).trans ((up2_ne (by omega)).trans up2_at)))), ((up2_ne (by omega)).trans ((upR_ne (by omega)).trans ((upR_ne (by omega)).trans up2_at))), up2_at⟩, fun s hs => ?_, fun t ht => ?_, fun t ht => ?_, fun k hk => ?_, fun g hg => ⟨?_, ?_⟩⟩
        · rw [show (up2 (upR (upR (up2 (up2 (up2 (up2 (upR (up2 h8 32 7 (N 7)) 36 (cpy (h8 5) (h8 36) 0 0 6)) 32 9 (N 2)) 32 10 (N 3)) 32 11 (N 1)) 32 12 (N 8)) 37 (cpy (h8 6) (h8 37) 0 0 10)) 38 (cpy (h8 7) (h8 38) 0 0 10)) 32 15 (N 0)) (32 + 1) = h7 33 from ((up2_row (by omega)).trans ((upR_rn (by omega)).trans ((upR_rn (by omega)).trans ((up2_row (by omega)).trans ((up2_row (by omega)).trans ((up2_row (by omega)).trans ((up2_row (by omega)).trans ((upR_rn (by omega)).trans ((up2_row (by omega)).trans rfl))))))))).trans ((hF8 33 (by decide)).trans (fG 33 (by decide))), hq7 33 (by omega), eHw, cpy_lt (by omega)]; exact hR.2.1 s hs
        · refine trW_fr (((up2_row (by omega)).trans ((upR_rn (by omega)).trans ((upR_rn (by omega)).trans ((up2_row (by omega)).trans ((up2_row (by omega)).trans ((up2_row (by omega)).trans ((up2_row (by omega)).trans ((upR_rn (by omega)).trans ((up2_row (by omega)).trans rfl))))))))).trans ((hF8 (32 + 7 + 2 * t) (by simp only [List.mem_cons, List.not_mem_nil, or_false]; omega)).trans (fG (32 + 7 + 2 * t) (by omega)))) (((up2_row (by omega)).trans ((upR_rn (by omega)).trans ((upR_rn (by omega)).trans ((up2_row (by omega)).trans ((up2_row (by omega)).trans ((up2_row (by omega)).trans ((up2_row (by omega)).trans ((upR_rn (by omega)).trans ((up2_row (by omega)).trans rfl))))))))).trans ((hF8 (32 + 7 + 2 * t + 1) (by simp only [List.mem_cons, List.not_mem_nil, or_false]; omega)).trans (fG (32 + 7 + 2 * t + 1) (by omega)))) (a7 t (by omega))
        · obtain ⟨q, q1, q2⟩ := hR.2.2.2.1 t ht
          refine ⟨q, ?_, q2⟩
          rw [show (up2 (upR (upR (up2 (up2 (up2 (up2 (upR (up2 h8 32 7 (N 7)) 36 (cpy (h8 5) (h8 36) 0 0 6)) 32 9 (N 2)) 32 10 (N 3)) 32 11 (N 1)) 32 12 (N 8)) 37 (cpy (h8 6) (h8 37) 0 0 10)) 38 (cpy (h8 7) (h8 38) 0 0 10)) 32 15 (N 0)) (32 + 3) = h8 35 from ((up2_row (by omega)).trans ((upR_rn (by omega)).trans ((upR_rn (by omega)).trans ((up2_row (by omega)).trans ((up2_row (by omega)).trans ((up2_row (by omega)).trans ((up2_row (by omega)).trans ((upR_rn (by omega)).trans ((up2_row (by omega)).trans rfl))))))))), a8 t (by omega), fG 4 (by decide), hq7 4 (by omega), eH 4 (by omega)]; exact q1
        · rw [show (up2 (upR (upR (up2 (up2 (up2 (up2 (upR (up2 h8 32 7 (N 7)) 36 (cpy (h8 5) (h8 36) 0 0 6)) 32 9 (N 2)) 32 10 (N 3)) 32 11 (N 1)) 32 12 (N 8)) 37 (cpy (h8 6) (h8 37) 0 0 10)) 38 (cpy (h8 7) (h8 38) 0 0 10)) 32 15 (N 0)) (32 + 4) = _ from ((up2_row (by omega)).trans ((upR_rn (by omega)).trans ((upR_rn (by omega)).trans ((up2_row (by omega)).trans ((up2_row (by omega)).trans ((up2_row (by omega)).trans ((up2_row (by omega)).trans upR_r))))))), cpy_lt (by omega), ((hF8 5 (by decide)).trans ((fG 5 (by decide)).trans ((hq7 5 (by omega)).trans (eH 5 (by omega)))))]; exact hR.2.2.2.2.1 k hk
        · rw [show (up2 (upR (upR (up2 (up2 (up2 (up2 (upR (up2 h8 32 7 (N 7)) 36 (cpy (h8 5) (h8 36) 0 0 6)) 32 9 (N 2)) 32 10 (N 3)) 32 11 (N 1)) 32 12 (N 8)) 37 (cpy (h8 6) (h8 37) 0 0 10)) 38 (cpy (h8 7) (h8 38) 0 0 10)) 32 15 (N 0)) (32 + 5) = _ from ((up2_row (by omega)).trans ((upR_rn (by omega)).trans upR_r)), cpy_lt (by omega), ((hF8 6 (by decide)).trans ((fG 6 (by decide)).trans ((hq7 6 (by omega)).trans (eH 6 (by omega)))))]; exact (hR.2.2.2.2.2 g hg).1
        · rw [show (up2 (upR (upR (up2 (up2 (up2 (up2 (upR (up2 h8 32 7 (N 7)) 36 (cpy (h8 5) (h8 36) 0 0 6)) 32 9 (N 2)) 32 10 (N 3)) 32 11 (N 1)) 32 12 (N 8)) 37 (cpy (h8 6) (h8 37) 0 0 10)) 38 (cpy (h8 7) (h8 38) 0 0 10)) 32 15 (N 0)) (32 + 6) = _ from ((up2_row (by omega)).trans upR_r), cpy_lt (by omega), ((hF8 7 (by decide)).trans ((fG 7 (by decide)).trans ((hq7 7 (by omega)).trans (eH 7 (by omega)))))]; exact (hR.2.2.2.2.2 g hg).2)
set_option maxHeartbeats 8000000 in
theorem l_tfA1 {γ : GT} {d : Nat} {n : Nat} {N : Nat → Int} {h : Nat → Nat → Int} {τ : List AC} {Post : Option AV → List AC → Prop} (hd : 4 ≤ d) (hn : n ≤ 12) (hW : ∀ t : Nat, t < n → trW h (39 + 2 * t) N t) (kE : ∀ h' x, (∀ c, ¬ (8 ≤ c ∧ c < 32) → h' c = h c) → (∀ t : Nat, t < n → trW h' (8 + 2 * t) N t) → Aj γ mX7_takeFrom d 0 0 Post 70 [(2, vI x), (0, vA 1), (1, vA 32)] [] (mk h' τ)) :
    ∀ (f i : Nat) (h1 : Nat → Nat → Int), i ≤ n → n < i + f → (∀ c, ¬ (8 ≤ c ∧ c < 32) → h1 c = h c) → (∀ t : Nat, t < i → trW h1 (8 + 2 * t) N t) → h1 1 3 = ((n : Nat) : Int) → Aj γ mX7_takeFrom d 0 0 Post 41 [(2, vI ((i : Nat) : Int)), (0, vA 1), (1, vA 32)] [] (mk h1 τ) := by
  intro f
  induction f with
  | zero => intro i h1 h1_ h2_; omega
  | succ f ih =>
    intro i h1 h1_ h2_ hq iv i3
    refine a_iload_n (j := 0) dX7_takeFrom_41 rfl rfl ?_
    refine a_aload_n (j := 1) dX7_takeFrom_42 rfl rfl (Nat.le_of_ble_eq_true rfl) ?_
    refine b_get (a := 1) (z := ((n : Nat) : Int)) (t := 0) dX7_takeFrom_43 fwX7_51 (by decide) rfl (by decide) rfl rfl i3 ?_
    refine a_icmp_ge (tgt := 70) dX7_takeFrom_46 (by decide) (fun c46_1 => ?_) (fun c46_1 => ?_)
    · obtain rfl : i = n := (by omega)
      exact kE h1 _ hq iv
    · refine a_aload_n (j := 1) dX7_takeFrom_49 rfl rfl (Nat.le_of_ble_eq_true rfl) ?_
      refine b_getp (a := 1) (p := 3) dX7_takeFrom_50 fwX7_17 (by decide) rfl (by decide) rfl rfl ?_
      refine a_iload_n (j := 0) dX7_takeFrom_53 rfl rfl ?_
      refine b_aaloadp (a := 3) (p := (8 + 2 * i)) i dX7_takeFrom_54 (by decide) rfl qa_18 rfl (by omega) (tr_a (Or.inl rfl : isWd 1) (show i < 12 by omega)) ?_
      refine a_aload_n (j := 2) dX7_takeFrom_55 rfl rfl (Nat.le_of_ble_eq_true rfl) ?_
      refine b_getp (a := 32) (p := 34) dX7_takeFrom_56 fwX7_17 (by decide) rfl (by decide) rfl rfl ?_
      refine a_iload_n (j := 0) dX7_takeFrom_59 rfl rfl ?_
      refine b_aaloadp (a := 34) (p := (39 + 2 * i)) i dX7_takeFrom_60 (by decide) rfl qa_18 rfl (by omega) (tr_a (Or.inr rfl : isWd 32) (show i < 12 by omega)) ?_
      refine b_callV (d' := d - 1) (mc' := 0) (ms' := 0) (mc1 := 0) (ms1 := 0) (st := []) (b := (8 + 2 * i)) [vA (39 + 2 * i)] dX7_takeFrom_61 mwX6_takeFrom lkX7_63 (by have := (tr_w (Or.inl rfl : isWd 1) (show i < 12 by omega)).1; omega) (tr_w (Or.inl rfl : isWd 1) (show i < 12 by omega)).2.1 rc_X6 rfl (Nat.le_of_ble_eq_true rfl) (by omega) rfl rfl (c_X6_takeFrom (v1 := (N (15 + 11 * i))) (v2 := (N (16 + 11 * i))) (v3 := (N (17 + 11 * i))) (v4 := (N (18 + 11 * i))) (v5 := (N (19 + 11 * i))) (v6 := (N (20 + 11 * i))) (v7 := (hsF (N (21 + 11 * i)))) (f8 := (h1 ((39 + 2 * i) + 1))) (f9 := (h1 ((8 + 2 * i) + 1))) (by omega) (tr_w (Or.inl rfl : isWd 1) (show i < 12 by omega)) (tr_w (Or.inr rfl : isWd 32) (show i < 12 by omega)) (by omega) ((congrFun (hq (39 + 2 * i) (by omega)) 0).trans (hW i (by omega)).1) ((congrFun (hq (39 + 2 * i) (by omega)) 1).trans (hW i (by omega)).2.1) ((congrFun (hq (39 + 2 * i) (by omega)) 2).trans (hW i (by omega)).2.2.1) ((congrFun (hq (39 + 2 * i) (by omega)) 3).trans (hW i (by omega)).2.2.2.1) ((congrFun (hq (39 + 2 * i) (by omega)) 4).trans (hW i (by omega)).2.2.2.2.1) ((congrFun (hq (39 + 2 * i) (by omega)) 5).trans (hW i (by omega)).2.2.2.2.2.1) ((congrFun (hq (39 + 2 * i) (by omega)) 6).trans (hW i (by omega)).2.2.2.2.2.2.1) rfl rfl  ?_)
      show Aj γ mX7_takeFrom d 0 0 Post 64 [(2, vI ((i : Nat) : Int)), (0, vA 1), (1, vA 32)] [] (mk (upR (up2 (up2 (up2 (up2 (up2 (up2 (up2 h1 (8 + 2 * i) 0 (N (15 + 11 * i))) (8 + 2 * i) 1 (N (16 + 11 * i))) (8 + 2 * i) 2 (N (17 + 11 * i))) (8 + 2 * i) 3 (N (18 + 11 * i))) (8 + 2 * i) 4 (N (19 + 11 * i))) (8 + 2 * i) 5 (N (20 + 11 * i))) (8 + 2 * i) 6 (hsF (N (21 + 11 * i)))) ((8 + 2 * i) + 1) (cpy (h1 ((39 + 2 * i) + 1)) (h1 ((8 + 2 * i) + 1)) 0 0 4)) τ)
      refine a_iinc (j := 0) (z' := ((i + 1 : Nat) : Int)) (lv' := [(2, vI ((i + 1 : Nat) : Int)), (0, vA 1), (1, vA 32)]) dX7_takeFrom_64 rfl (w_okN (by omega) (by omega) (by omega)) (by decide) rfl ?_
      refine a_goto (tgt := 41) dX7_takeFrom_67 (by decide) ?_
      refine a_lv (lv' := [(2, vI (((i + 1) : Nat) : Int)), (0, vA 1), (1, vA 32)]) (by intro q hq; simp only [List.mem_cons, List.not_mem_nil, or_false] at hq ⊢; rcases hq with rfl | rfl | rfl <;> simp) (ih (i + 1) (upR (up2 (up2 (up2 (up2 (up2 (up2 (up2 h1 (8 + 2 * i) 0 (N (15 + 11 * i))) (8 + 2 * i) 1 (N (16 + 11 * i))) (8 + 2 * i) 2 (N (17 + 11 * i))) (8 + 2 * i) 3 (N (18 + 11 * i))) (8 + 2 * i) 4 (N (19 + 11 * i))) (8 + 2 * i) 5 (N (20 + 11 * i))) (8 + 2 * i) 6 (hsF (N (21 + 11 * i)))) ((8 + 2 * i) + 1) (cpy (h1 ((39 + 2 * i) + 1)) (h1 ((8 + 2 * i) + 1)) 0 0 4)) (by omega) (by omega) (fun c hc => ((upR_rn (by omega)).trans ((up2_row (by omega)).trans ((up2_row (by omega)).trans ((up2_row (by omega)).trans ((up2_row (by omega)).trans ((up2_row (by omega)).trans ((up2_row (by omega)).trans ((up2_row (by omega)).trans rfl)))))))).trans (hq c hc)) (fun t ht => ?_) ((((upR_ne (by omega)).trans ((up2_ne (by omega)).trans ((up2_ne (by omega)).trans ((up2_ne (by omega)).trans ((up2_ne (by omega)).trans ((up2_ne (by omega)).trans ((up2_ne (by omega)).trans ((up2_ne (by omega)).trans i3)))))))))))
      by_cases ct : t = i
      · subst ct; exact ⟨((upR_ne (by omega)).trans ((up2_ne (by omega)).trans ((up2_ne (by omega)).trans ((up2_ne (by omega)).trans ((up2_ne (by omega)).trans ((up2_ne (by omega)).trans ((up2_ne (by omega)).trans up2_at))))))), ((upR_ne (by omega)).trans ((up2_ne (by omega)).trans ((up2_ne (by omega)).trans ((up2_ne (by omega)).trans ((up2_ne (by omega)).trans ((up2_ne (by omega)).trans up2_at)))))), ((upR_ne (by omega)).trans ((up2_ne (by omega)).trans ((up2_ne (by omega)).trans ((up2_ne (by omega)).trans ((up2_ne (by omega)).trans up2_at))))), ((upR_ne (by omega)).trans ((up2_ne (by omega)).trans ((up2_ne (by omega)).trans ((up2_ne (by omega)).trans up2_at)))), ((upR_ne (by omega)).trans ((up2_ne (by omega)).trans ((up2_ne (by omega)).trans up2_at))), ((upR_ne (by omega)).trans ((up2_ne (by omega)).trans up2_at)), ((upR_ne (by omega)).trans up2_at), fun s hs => by rw [upR_r, cpy_lt hs, hq (39 + 2 * t + 1) (by omega)]; exact (hW t (by omega)).2.2.2.2.2.2.2 s hs⟩
      · exact trW_fr ((upR_rn (by omega)).trans ((up2_row (by omega)).trans ((up2_row (by omega)).trans ((up2_row (by omega)).trans ((up2_row (by omega)).trans ((up2_row (by omega)).trans ((up2_row (by omega)).trans ((up2_row (by omega)).trans rfl)))))))) ((upR_rn (by omega)).trans ((up2_row (by omega)).trans ((up2_row (by omega)).trans ((up2_row (by omega)).trans ((up2_row (by omega)).trans ((up2_row (by omega)).trans ((up2_row (by omega)).trans ((up2_row (by omega)).trans rfl)))))))) (iv t (by omega))
set_option maxHeartbeats 8000000 in
theorem l_tfT1 {γ : GT} {d : Nat} {n : Nat} {N : Nat → Int} {h : Nat → Nat → Int} {τ : List AC} {Post : Option AV → List AC → Prop} (hd : 4 ≤ d) (hn : n ≤ 14) (hT : ∀ t : Nat, t < n → ∃ q : Nat, h 35 t = ((154 + q : Nat) : Int) ∧ TX τ N t q) (i5 : h 1 5 = ((n : Nat) : Int)) (kE : ∀ h' x, Fr [4] h h' → (∀ t : Nat, t < n → h' 4 t = h 35 t) → Aj γ mX7_takeFrom d 0 0 Post 106 [(2, vI x), (0, vA 1), (1, vA 32)] [] (mk h' τ)) :
    ∀ (f i : Nat) (h1 : Nat → Nat → Int), i ≤ n → n < i + f → Fr [4] h h1 → (∀ t : Nat, t < i → h1 4 t = h 35 t) → Aj γ mX7_takeFrom d 0 0 Post 80 [(2, vI ((i : Nat) : Int)), (0, vA 1), (1, vA 32)] [] (mk h1 τ) := by
  intro f
  induction f with
  | zero => intro i h1  h1_ h2_; omega
  | succ f ih =>
    intro i h1  h1_ h2_ hF iv
    refine a_iload_n (j := 0) dX7_takeFrom_80 rfl rfl ?_
    refine a_aload_n (j := 1) dX7_takeFrom_81 rfl rfl (Nat.le_of_ble_eq_true rfl) ?_
    refine b_get (a := 1) (z := ((n : Nat) : Int)) (t := 0) dX7_takeFrom_82 fwX7_67 (by decide) rfl (by decide) rfl rfl ((Fr_v hF (by decide)).trans i5) ?_
    refine a_icmp_ge (tgt := 106) dX7_takeFrom_85 (by decide) (fun c85_1 => ?_) (fun c85_1 => ?_)
    · obtain rfl : i = n := (by omega)
      exact kE _ _ hF iv
    · obtain ⟨q, hz, hq4⟩ := hT i (by omega)
      obtain ⟨ft, hft, _⟩ := id hq4
      refine a_aload_n (j := 1) dX7_takeFrom_88 rfl rfl (Nat.le_of_ble_eq_true rfl) ?_
      refine b_getp (a := 1) (p := 4) dX7_takeFrom_89 fwX7_23 (by decide) rfl (by decide) rfl rfl ?_
      refine a_iload_n (j := 0) dX7_takeFrom_92 rfl rfl ?_
      refine a_aload_n (j := 2) dX7_takeFrom_93 rfl rfl (Nat.le_of_ble_eq_true rfl) ?_
      refine b_getp (a := 32) (p := 35) dX7_takeFrom_94 fwX7_23 (by decide) rfl (by decide) rfl rfl ?_
      refine a_iload_n (j := 0) dX7_takeFrom_97 rfl rfl ?_
      refine b_aaload (a := 35) (z := (((154 + q) : Nat) : Int)) i dX7_takeFrom_98 (by decide) rfl qa_17 rfl (by omega) (sp_nil rfl _) ((Fr_v hF (by decide)).trans hz) ?_
      refine b_aastore (a := 4) (b := (154 + q)) (κ' := 4) (n' := 3) (f' := ft) i dX7_takeFrom_99 (by decide) rfl ((mk_dyn q).trans hft) qs_17 rfl (by omega) (sp_nil rfl _) ?_
      refine a_iinc (j := 0) (z' := ((i + 1 : Nat) : Int)) (lv' := [(2, vI ((i + 1 : Nat) : Int)), (0, vA 1), (1, vA 32)]) dX7_takeFrom_100 rfl (w_okN (by omega) (by omega) (by omega)) (by decide) rfl ?_
      refine a_goto (tgt := 80) dX7_takeFrom_103 (by decide) ?_
      refine a_lv (lv' := [(2, vI (((i + 1) : Nat) : Int)), (0, vA 1), (1, vA 32)]) (by intro q hq; simp only [List.mem_cons, List.not_mem_nil, or_false] at hq ⊢; rcases hq with rfl | rfl | rfl <;> simp) (ih (i + 1) (up2 h1 4 i ((154 + q : Nat) : Int))  (by omega) (by omega) (Fr_u (by decide) (Fr_m (by decide) hF)) (fun t ht => by
          by_cases c : t = i
          · subst c; exact up2_at.trans hz.symm
          · exact (up2_ne (by omega)).trans (iv t (by omega))))
set_option maxHeartbeats 16000000 in
theorem c_X7_takeFrom_1 {γ : GT} {d : Nat} {N : Nat → Int} {h : Nat → Nat → Int} {τ : List AC} {Post : Option AV → List AC → Prop} (hd : 4 ≤ d) (hR : WR h τ 32 N) (hX : NX N) (kQ : ∀ h', (∀ c, ¬ (1 ≤ c ∧ c < 32) → h' c = h c) → h' 1 0 = h 32 0 → WR h' τ 1 N → Post none (mk h' τ)) : Cj γ mX7_takeFrom d 0 0 [vA 1, vA 32] (mk h τ) Post := by
  have hs4 := hX.1.1.2.2.2.1
  have hs5 := hX.1.1.2.2.2.2
  have hs6 := hX.1.2.2.2.1
  have hx7 := hX.2.1
  have hx8 := hX.2.2.2.1
  obtain ⟨n5, hn5⟩ : ∃ n : Nat, N 5 = (n : Int) := ⟨Int.toNat (N 5), by omega⟩
  obtain ⟨n6, hn6⟩ : ∃ n : Nat, N 6 = (n : Int) := ⟨Int.toNat (N 6), by omega⟩
  refine c_of (by decide) (Nat.le_of_ble_eq_true rfl) ?_
  show Aj γ mX7_takeFrom d 0 0 Post 0 [(0, vA 1), (1, vA 32)] [] (mk h τ)
  refine a_aload_n (j := 0) dX7_takeFrom_0 rfl rfl (Nat.le_of_ble_eq_true rfl) ?_
  refine a_aload_n (j := 1) dX7_takeFrom_1 rfl rfl (Nat.le_of_ble_eq_true rfl) ?_
  refine b_get (a := 32) (z := h 32 0) (t := 0) dX7_takeFrom_2 fwX7_54 (by decide) rfl (by decide) rfl rfl rfl ?_
  refine b_put (a := 1) (v := vI (h 32 0)) dX7_takeFrom_5 pwX7_54 (fun h => nomatch h) (by decide) rfl (by decide) rfl rfl (fit_int _) ?_
  show Aj γ mX7_takeFrom d 0 0 Post 8 [(0, vA 1), (1, vA 32)] [] (mk (up2 h 1 0 (h 32 0)) τ)
  refine a_aload_n (j := 0) dX7_takeFrom_8 rfl rfl (Nat.le_of_ble_eq_true rfl) ?_
  refine a_aload_n (j := 1) dX7_takeFrom_9 rfl rfl (Nat.le_of_ble_eq_true rfl) ?_
  refine b_get (a := 32) (z := N 4) (t := 0) dX7_takeFrom_10 fwX7_44 (by decide) rfl (by decide) rfl rfl ((up2_ne (by omega)).trans hR.1.1) ?_
  refine b_put (a := 1) (v := vI (N 4)) dX7_takeFrom_13 pwX7_44 (fun h => nomatch h) (by decide) rfl (by decide) rfl rfl (fit_int _) ?_
  show Aj γ mX7_takeFrom d 0 0 Post 16 [(0, vA 1), (1, vA 32)] [] (mk (up2 (up2 h 1 0 (h 32 0)) 1 1 (N 4)) τ)
  refine a_aload_n (j := 1) dX7_takeFrom_16 rfl rfl (Nat.le_of_ble_eq_true rfl) ?_
  refine b_getp (a := 32) (p := 33) dX7_takeFrom_17 fwX7_9 (by decide) rfl (by decide) rfl rfl ?_
  refine a_iconst dX7_takeFrom_20 ⟨by decide, by decide⟩ ?_
  refine a_aload_n (j := 0) dX7_takeFrom_21 rfl rfl (Nat.le_of_ble_eq_true rfl) ?_
  refine b_getp (a := 1) (p := 2) dX7_takeFrom_22 fwX7_9 (by decide) rfl (by decide) rfl rfl ?_
  refine a_iconst dX7_takeFrom_25 ⟨by decide, by decide⟩ ?_
  refine a_bipush dX7_takeFrom_26 ⟨by decide, by decide, by decide⟩ ?_
  refine b_copyR (a := 33) (b := 2) (sp' := 0) (dp := 0) (n := 6) (f := (h 33)) (g := (h 2)) dX7_takeFrom_28 alX7_57 (by decide) (by decide) rfl rfl (sp_nil rfl) (sp_nil rfl) rfl rfl rfl (by decide) (by decide) (Nat.le_of_ble_eq_true rfl) (by omega) ((up2_row (by omega)).trans ((up2_row (by omega)).trans rfl)) ((up2_row (by omega)).trans ((up2_row (by omega)).trans rfl)) ?_
  show Aj γ mX7_takeFrom d 0 0 Post 31 [(0, vA 1), (1, vA 32)] [] (mk (upR (up2 (up2 h 1 0 (h 32 0)) 1 1 (N 4)) 2 (cpy (h 33) (h 2) 0 0 6)) τ)
  refine a_aload_n (j := 0) dX7_takeFrom_31 rfl rfl (Nat.le_of_ble_eq_true rfl) ?_
  refine a_aload_n (j := 1) dX7_takeFrom_32 rfl rfl (Nat.le_of_ble_eq_true rfl) ?_
  refine b_get (a := 32) (z := N 5) (t := 0) dX7_takeFrom_33 fwX7_51 (by decide) rfl (by decide) rfl rfl ((upR_ne (by omega)).trans ((up2_ne (by omega)).trans ((up2_ne (by omega)).trans hR.1.2.1))) ?_
  refine b_put (a := 1) (v := vI (N 5)) dX7_takeFrom_36 pwX7_51 (fun h => nomatch h) (by decide) rfl (by decide) rfl rfl (fit_int _) ?_
  show Aj γ mX7_takeFrom d 0 0 Post 39 [(0, vA 1), (1, vA 32)] [] (mk (up2 (upR (up2 (up2 h 1 0 (h 32 0)) 1 1 (N 4)) 2 (cpy (h 33) (h 2) 0 0 6)) 1 3 (N 5)) τ)
  refine a_iconst dX7_takeFrom_39 ⟨by decide, by decide⟩ ?_
  refine a_istore_n (lv' := [(2, vI 0), (0, vA 1), (1, vA 32)]) dX7_takeFrom_40 rfl (by decide) rfl ?_
  generalize hHH : (up2 (upR (up2 (up2 h 1 0 (h 32 0)) 1 1 (N 4)) 2 (cpy (h 33) (h 2) 0 0 6)) 1 3 (N 5)) = H
  have eH : ∀ c, ¬ (1 ≤ c ∧ c < 8) → H c = h c := fun c hc => (by rw [← hHH]; exact ((up2_row (by omega)).trans ((upR_rn (by omega)).trans ((up2_row (by omega)).trans ((up2_row (by omega)).trans rfl)))))
  have eH0 : H 1 0 = h 32 0 := by rw [← hHH]; exact ((up2_ne (by omega)).trans ((upR_ne (by omega)).trans ((up2_ne (by omega)).trans up2_at)))
  have eH1 : H 1 1 = N 4 := by rw [← hHH]; exact ((up2_ne (by omega)).trans ((upR_ne (by omega)).trans up2_at))
  have eH3 : H 1 3 = N 5 := by rw [← hHH]; exact up2_at
  have eHw : H 2 = (cpy (h 33) (h 2) 0 0 6) := by rw [← hHH]; exact ((up2_row (by omega)).trans upR_r)
  refine a_lv (lv' := [(2, vI ((0 : Nat) : Int)), (0, vA 1), (1, vA 32)]) (by intro q hq; simp only [List.mem_cons, List.not_mem_nil, or_false] at hq ⊢; rcases hq with rfl | rfl | rfl <;> simp) (l_tfA1 (h := H) (n := n5) (N := N) hd (by omega) (fun t ht => trW_fr (eH _ (by omega)) (eH _ (by omega)) (hR.2.2.1 t (by omega))) ?_ (n5 + 1) 0 H (by omega) (by omega) (fun c hc => rfl) (fun t ht => by omega) (eH3.trans hn5))
  intro h7 x7 hq7 a7
  refine a_aload_n (j := 1) dX7_takeFrom_70 rfl rfl (Nat.le_of_ble_eq_true rfl) ?_
  refine a_aload_n (j := 2) dX7_takeFrom_71 rfl rfl (Nat.le_of_ble_eq_true rfl) ?_
  refine b_get (a := 32) (z := N 6) (t := 0) dX7_takeFrom_72 fwX7_67 (by decide) rfl (by decide) rfl rfl ((congrFun (hq7 32 (by omega)) 5).trans ((congrFun (eH 32 (by omega)) 5).trans hR.1.2.2.1)) ?_
  refine b_put (a := 1) (v := vI (N 6)) dX7_takeFrom_75 pwX7_67 (fun h => nomatch h) (by decide) rfl (by decide) rfl rfl (fit_int _) ?_
  show Aj γ mX7_takeFrom d 0 0 Post 78 [(2, vI x7), (0, vA 1), (1, vA 32)] [] (mk (up2 h7 1 5 (N 6)) τ)
  refine a_iconst dX7_takeFrom_78 ⟨by decide, by decide⟩ ?_
  refine a_istore_n (lv' := [(2, vI 0), (0, vA 1), (1, vA 32)]) dX7_takeFrom_79 rfl (by decide) rfl ?_
  generalize hGG : (up2 h7 1 5 (N 6)) = H7
  have fG : ∀ c, ¬ c = 1 → H7 c = h7 c := fun c hc => by rw [← hGG]; exact up2_row hc
  have gG : ∀ k, ¬ k = 5 → H7 1 k = h7 1 k := fun k hk => by rw [← hGG]; exact up2_ne (by omega)
  have g5 : H7 1 5 = N 6 := by rw [← hGG]; exact up2_at
  refine a_lv (lv' := [(2, vI ((0 : Nat) : Int)), (0, vA 1), (1, vA 32)]) (by intro q hq; simp only [List.mem_cons, List.not_mem_nil, or_false] at hq ⊢; rcases hq with rfl | rfl | rfl <;> simp) (l_tfT1 (h := H7) (n := n6) (N := N) hd (by omega) (fun t ht => ?_) (g5.trans hn6) ?_ (n6 + 1) 0 H7 (by omega) (by omega) Fr_r (fun t ht => by omega))
  · rw [fG 35 (by omega), hq7 35 (by omega), eH 35 (by omega)]; exact hR.2.2.2.1 t (by omega)
  · intro h8 x8 hF8 a8
    refine a_aload_n (j := 1) dX7_takeFrom_106 rfl rfl (Nat.le_of_ble_eq_true rfl) ?_
    refine a_aload_n (j := 2) dX7_takeFrom_107 rfl rfl (Nat.le_of_ble_eq_true rfl) ?_
    refine b_get (a := 32) (z := N 7) (t := 0) dX7_takeFrom_108 fwX7_70 (by decide) rfl (by decide) rfl rfl ((Fr_v hF8 (by decide)).trans ((congrFun (fG 32 (by omega)) 7).trans ((congrFun (hq7 32 (by omega)) 7).trans ((congrFun (eH 32 (by omega)) 7).trans hR.1.2.2.2.1)))) ?_
    refine b_put (a := 1) (v := vI (N 7)) dX7_takeFrom_111 pwX7_70 (fun h => nomatch h) (by decide) rfl (by decide) rfl rfl (fit_int _) ?_
    show Aj γ mX7_takeFrom d 0 0 Post 114 [(2, vI x8), (0, vA 1), (1, vA 32)] [] (mk (up2 h8 1 7 (N 7)) τ)
    refine a_aload_n (j := 2) dX7_takeFrom_114 rfl rfl (Nat.le_of_ble_eq_true rfl) ?_
    refine b_getp (a := 32) (p := 36) dX7_takeFrom_115 fwX7_27 (by decide) rfl (by decide) rfl rfl ?_
    refine a_iconst dX7_takeFrom_118 ⟨by decide, by decide⟩ ?_
    refine a_aload_n (j := 1) dX7_takeFrom_119 rfl rfl (Nat.le_of_ble_eq_true rfl) ?_
    refine b_getp (a := 1) (p := 5) dX7_takeFrom_120 fwX7_27 (by decide) rfl (by decide) rfl rfl ?_
    refine a_iconst dX7_takeFrom_123 ⟨by decide, by decide⟩ ?_
    refine a_bipush dX7_takeFrom_124 ⟨by decide, by decide, by decide⟩ ?_
    refine b_copyR (a := 36) (b := 5) (sp' := 0) (dp := 0) (n := 6) (f := (h8 36)) (g := (h8 5)) dX7_takeFrom_126 alX7_57 (by decide) (by decide) rfl rfl (sp_nil rfl) (sp_nil rfl) rfl rfl rfl (by decide) (by decide) (Nat.le_of_ble_eq_true rfl) (by omega) ((up2_row (by omega)).trans rfl) ((up2_row (by omega)).trans rfl) ?_
    show Aj γ mX7_takeFrom d 0 0 Post 129 [(2, vI x8), (0, vA 1), (1, vA 32)] [] (mk (upR (up2 h8 1 7 (N 7)) 5 (cpy (h8 36) (h8 5) 0 0 6)) τ)
    refine a_aload_n (j := 1) dX7_takeFrom_129 rfl rfl (Nat.le_of_ble_eq_true rfl) ?_
    refine a_aload_n (j := 2) dX7_takeFrom_130 rfl rfl (Nat.le_of_ble_eq_true rfl) ?_
    refine b_get (a := 32) (z := N 2) (t := 0) dX7_takeFrom_131 fwX7_73 (by decide) rfl (by decide) rfl rfl ((upR_ne (by omega)).trans ((up2_ne (by omega)).trans ((Fr_v hF8 (by decide)).trans ((congrFun (fG 32 (by omega)) 9).trans ((congrFun (hq7 32 (by omega)) 9).trans ((congrFun (eH 32 (by omega)) 9).trans hR.1.2.2.2.2.1)))))) ?_
    refine b_put (a := 1) (v := vI (N 2)) dX7_takeFrom_134 pwX7_73 (fun h => nomatch h) (by decide) rfl (by decide) rfl rfl (fit_int _) ?_
    show Aj γ mX7_takeFrom d 0 0 Post 137 [(2, vI x8), (0, vA 1), (1, vA 32)] [] (mk (up2 (upR (up2 h8 1 7 (N 7)) 5 (cpy (h8 36) (h8 5) 0 0 6)) 1 9 (N 2)) τ)
    refine a_aload_n (j := 1) dX7_takeFrom_137 rfl rfl (Nat.le_of_ble_eq_true rfl) ?_
    refine a_aload_n (j := 2) dX7_takeFrom_138 rfl rfl (Nat.le_of_ble_eq_true rfl) ?_
    refine b_get (a := 32) (z := N 3) (t := 0) dX7_takeFrom_139 fwX7_30 (by decide) rfl (by decide) rfl rfl ((up2_ne (by omega)).trans ((upR_ne (by omega)).trans ((up2_ne (by omega)).trans ((Fr_v hF8 (by decide)).trans ((congrFun (fG 32 (by omega)) 10).trans ((congrFun (hq7 32 (by omega)) 10).trans ((congrFun (eH 32 (by omega)) 10).trans hR.1.2.2.2.2.2.1))))))) ?_
    refine b_put (a := 1) (v := vI (N 3)) dX7_takeFrom_142 pwX7_30 (fun h => nomatch h) (by decide) rfl (by decide) rfl rfl (fit_int _) ?_
    show Aj γ mX7_takeFrom d 0 0 Post 145 [(2, vI x8), (0, vA 1), (1, vA 32)] [] (mk (up2 (up2 (upR (up2 h8 1 7 (N 7)) 5 (cpy (h8 36) (h8 5) 0 0 6)) 1 9 (N 2)) 1 10 (N 3)) τ)
    refine a_aload_n (j := 1) dX7_takeFrom_145 rfl rfl (Nat.le_of_ble_eq_true rfl) ?_
    refine a_aload_n (j := 2) dX7_takeFrom_146 rfl rfl (Nat.le_of_ble_eq_true rfl) ?_
    refine b_get (a := 32) (z := N 1) (t := 0) dX7_takeFrom_147 fwX7_76 (by decide) rfl (by decide) rfl rfl ((up2_ne (by omega)).trans ((up2_ne (by omega)).trans ((upR_ne (by omega)).trans ((up2_ne (by omega)).trans ((Fr_v hF8 (by decide)).trans ((congrFun (fG 32 (by omega)) 11).trans ((congrFun (hq7 32 (by omega)) 11).trans ((congrFun (eH 32 (by omega)) 11).trans hR.1.2.2.2.2.2.2.1)))))))) ?_
    refine b_put (a := 1) (v := vI (N 1)) dX7_takeFrom_150 pwX7_76 (fun h => nomatch h) (by decide) rfl (by decide) rfl rfl (fit_int _) ?_
    show Aj γ mX7_takeFrom d 0 0 Post 153 [(2, vI x8), (0, vA 1), (1, vA 32)] [] (mk (up2 (up2 (up2 (upR (up2 h8 1 7 (N 7)) 5 (cpy (h8 36) (h8 5) 0 0 6)) 1 9 (N 2)) 1 10 (N 3)) 1 11 (N 1)) τ)
    refine a_aload_n (j := 1) dX7_takeFrom_153 rfl rfl (Nat.le_of_ble_eq_true rfl) ?_
    refine a_aload_n (j := 2) dX7_takeFrom_154 rfl rfl (Nat.le_of_ble_eq_true rfl) ?_
    refine b_get (a := 32) (z := N 8) (t := 0) dX7_takeFrom_155 fwX7_79 (by decide) rfl (by decide) rfl rfl ((up2_ne (by omega)).trans ((up2_ne (by omega)).trans ((up2_ne (by omega)).trans ((upR_ne (by omega)).trans ((up2_ne (by omega)).trans ((Fr_v hF8 (by decide)).trans ((congrFun (fG 32 (by omega)) 12).trans ((congrFun (hq7 32 (by omega)) 12).trans ((congrFun (eH 32 (by omega)) 12).trans hR.1.2.2.2.2.2.2.2.1))))))))) ?_
    refine b_put (a := 1) (v := vI (N 8)) dX7_takeFrom_158 pwX7_79 (fun h => nomatch h) (by decide) rfl (by decide) rfl rfl (fit_int _) ?_
    show Aj γ mX7_takeFrom d 0 0 Post 161 [(2, vI x8), (0, vA 1), (1, vA 32)] [] (mk (up2 (up2 (up2 (up2 (upR (up2 h8 1 7 (N 7)) 5 (cpy (h8 36) (h8 5) 0 0 6)) 1 9 (N 2)) 1 10 (N 3)) 1 11 (N 1)) 1 12 (N 8)) τ)
    refine a_aload_n (j := 2) dX7_takeFrom_161 rfl rfl (Nat.le_of_ble_eq_true rfl) ?_
    refine b_getp (a := 32) (p := 37) dX7_takeFrom_162 fwX7_34 (by decide) rfl (by decide) rfl rfl ?_
    refine a_iconst dX7_takeFrom_165 ⟨by decide, by decide⟩ ?_
    refine a_aload_n (j := 1) dX7_takeFrom_166 rfl rfl (Nat.le_of_ble_eq_true rfl) ?_
    refine b_getp (a := 1) (p := 6) dX7_takeFrom_167 fwX7_34 (by decide) rfl (by decide) rfl rfl ?_
    refine a_iconst dX7_takeFrom_170 ⟨by decide, by decide⟩ ?_
    refine a_bipush dX7_takeFrom_171 ⟨by decide, by decide, by decide⟩ ?_
    refine b_copyR (a := 37) (b := 6) (sp' := 0) (dp := 0) (n := 10) (f := (h8 37)) (g := (h8 6)) dX7_takeFrom_173 alX7_57 (by decide) (by decide) rfl rfl (sp_nil rfl) (sp_nil rfl) rfl rfl rfl (by decide) (by decide) (Nat.le_of_ble_eq_true rfl) (by omega) ((up2_row (by omega)).trans ((up2_row (by omega)).trans ((up2_row (by omega)).trans ((up2_row (by omega)).trans ((upR_rn (by omega)).trans ((up2_row (by omega)).trans rfl)))))) ((up2_row (by omega)).trans ((up2_row (by omega)).trans ((up2_row (by omega)).trans ((up2_row (by omega)).trans ((upR_rn (by omega)).trans ((up2_row (by omega)).trans rfl)))))) ?_
    show Aj γ mX7_takeFrom d 0 0 Post 176 [(2, vI x8), (0, vA 1), (1, vA 32)] [] (mk (upR (up2 (up2 (up2 (up2 (upR (up2 h8 1 7 (N 7)) 5 (cpy (h8 36) (h8 5) 0 0 6)) 1 9 (N 2)) 1 10 (N 3)) 1 11 (N 1)) 1 12 (N 8)) 6 (cpy (h8 37) (h8 6) 0 0 10)) τ)
    refine a_aload_n (j := 2) dX7_takeFrom_176 rfl rfl (Nat.le_of_ble_eq_true rfl) ?_
    refine b_getp (a := 32) (p := 38) dX7_takeFrom_177 fwX7_37 (by decide) rfl (by decide) rfl rfl ?_
    refine a_iconst dX7_takeFrom_180 ⟨by decide, by decide⟩ ?_
    refine a_aload_n (j := 1) dX7_takeFrom_181 rfl rfl (Nat.le_of_ble_eq_true rfl) ?_
    refine b_getp (a := 1) (p := 7) dX7_takeFrom_182 fwX7_37 (by decide) rfl (by decide) rfl rfl ?_
    refine a_iconst dX7_takeFrom_185 ⟨by decide, by decide⟩ ?_
    refine a_bipush dX7_takeFrom_186 ⟨by decide, by decide, by decide⟩ ?_
    refine b_copyR (a := 38) (b := 7) (sp' := 0) (dp := 0) (n := 10) (f := (h8 38)) (g := (h8 7)) dX7_takeFrom_188 alX7_57 (by decide) (by decide) rfl rfl (sp_nil rfl) (sp_nil rfl) rfl rfl rfl (by decide) (by decide) (Nat.le_of_ble_eq_true rfl) (by omega) ((upR_rn (by omega)).trans ((up2_row (by omega)).trans ((up2_row (by omega)).trans ((up2_row (by omega)).trans ((up2_row (by omega)).trans ((upR_rn (by omega)).trans ((up2_row (by omega)).trans rfl))))))) ((upR_rn (by omega)).trans ((up2_row (by omega)).trans ((up2_row (by omega)).trans ((up2_row (by omega)).trans ((up2_row (by omega)).trans ((upR_rn (by omega)).trans ((up2_row (by omega)).trans rfl))))))) ?_
    show Aj γ mX7_takeFrom d 0 0 Post 191 [(2, vI x8), (0, vA 1), (1, vA 32)] [] (mk (upR (upR (up2 (up2 (up2 (up2 (upR (up2 h8 1 7 (N 7)) 5 (cpy (h8 36) (h8 5) 0 0 6)) 1 9 (N 2)) 1 10 (N 3)) 1 11 (N 1)) 1 12 (N 8)) 6 (cpy (h8 37) (h8 6) 0 0 10)) 7 (cpy (h8 38) (h8 7) 0 0 10)) τ)
    refine a_aload_n (j := 1) dX7_takeFrom_191 rfl rfl (Nat.le_of_ble_eq_true rfl) ?_
    refine a_aload_n (j := 2) dX7_takeFrom_192 rfl rfl (Nat.le_of_ble_eq_true rfl) ?_
    refine b_get (a := 32) (z := N 0) (t := 0) dX7_takeFrom_193 fwX7_40 (by decide) rfl (by decide) rfl rfl ((upR_ne (by omega)).trans ((upR_ne (by omega)).trans ((up2_ne (by omega)).trans ((up2_ne (by omega)).trans ((up2_ne (by omega)).trans ((up2_ne (by omega)).trans ((upR_ne (by omega)).trans ((up2_ne (by omega)).trans ((Fr_v hF8 (by decide)).trans ((congrFun (fG 32 (by omega)) 15).trans ((congrFun (hq7 32 (by omega)) 15).trans ((congrFun (eH 32 (by omega)) 15).trans hR.1.2.2.2.2.2.2.2.2)))))))))))) ?_
    refine b_put (a := 1) (v := vI (N 0)) dX7_takeFrom_196 pwX7_40 (fun h => nomatch h) (by decide) rfl (by decide) rfl rfl (fit_int _) ?_
    show Aj γ mX7_takeFrom d 0 0 Post 199 [(2, vI x8), (0, vA 1), (1, vA 32)] [] (mk (up2 (upR (upR (up2 (up2 (up2 (up2 (upR (up2 h8 1 7 (N 7)) 5 (cpy (h8 36) (h8 5) 0 0 6)) 1 9 (N 2)) 1 10 (N 3)) 1 11 (N 1)) 1 12 (N 8)) 6 (cpy (h8 37) (h8 6) 0 0 10)) 7 (cpy (h8 38) (h8 7) 0 0 10)) 1 15 (N 0)) τ)
    exact a_vret dX7_takeFrom_199 rfl (by
        have hfr : ∀ c, ¬ (1 ≤ c ∧ c < 32) → (up2 (upR (upR (up2 (up2 (up2 (up2 (upR (up2 h8 1 7 (N 7)) 5 (cpy (h8 36) (h8 5) 0 0 6)) 1 9 (N 2)) 1 10 (N 3)) 1 11 (N 1)) 1 12 (N 8)) 6 (cpy (h8 37) (h8 6) 0 0 10)) 7 (cpy (h8 38) (h8 7) 0 0 10)) 1 15 (N 0)) c = h c := fun c hc => ((up2_row (by omega)).trans ((upR_rn (by omega)).trans ((upR_rn (by omega)).trans ((up2_row (by omega)).trans ((up2_row (by omega)).trans ((up2_row (by omega)).trans ((up2_row (by omega)).trans ((upR_rn (by omega)).trans ((up2_row (by omega)).trans rfl))))))))).trans ((hF8 c (by simp only [List.mem_cons, List.not_mem_nil, or_false]; omega)).trans ((fG c (by omega)).trans ((hq7 c (by omega)).trans (eH c (by omega)))))
        refine kQ _ hfr (((up2_ne (by omega)).trans ((upR_ne (by omega)).trans ((upR_ne (by omega)).trans ((up2_ne (by omega)).trans ((up2_ne (by omega)).trans ((up2_ne (by omega)).trans ((up2_ne (by omega)).trans ((upR_ne (by omega)).trans ((up2_ne (by omega)).trans ((Fr_v hF8 (by decide)).trans ((gG 0 (by omega)).trans ((congrFun (hq7 1 (by omega)) 0).trans eH0))))))))))))) ⟨⟨((up2_ne (by omega)).trans ((upR_ne (by omega)).trans ((upR_ne (by omega)).trans ((up2_ne (by omega)).trans ((up2_ne (by omega)).trans ((up2_ne (by omega)).trans ((up2_ne (by omega)).trans ((upR_ne (by omega)).trans ((up2_ne (by omega)).trans ((Fr_v hF8 (by decide)).trans ((gG 1 (by omega)).trans ((congrFun (hq7 1 (by omega)) 1).trans eH1)))))))))))), ((up2_ne (by omega)).trans ((upR_ne (by omega)).trans ((upR_ne (by omega)).trans ((up2_ne (by omega)).trans ((up2_ne (by omega)).trans ((up2_ne (by omega)).trans ((up2_ne (by omega)).trans ((upR_ne (by omega)).trans ((up2_ne (by omega)).trans ((Fr_v hF8 (by decide)).trans ((gG 3 (by omega)).trans ((congrFun (hq7 1 (by omega)) 3).trans eH3)))))))))))), ((up2_ne (by omega)).trans ((upR_ne (by omega)).trans ((upR_ne (by omega)).trans ((up2_ne (by omega)).trans ((up2_ne (by omega)).trans ((up2_ne (by omega)).trans ((up2_ne (by omega)).trans ((upR_ne (by omega)).trans ((up2_ne (by omega)).trans ((Fr_v hF8 (by decide)).trans g5)))))))))), ((up2_ne (by omega)).trans ((upR_ne (by omega)).trans ((upR_ne (by omega)).trans ((up2_ne (by omega)).trans ((up2_ne (by omega)).trans ((up2_ne (by omega)).trans ((up2_ne (by omega)).trans ((upR_ne (by omega)).trans up2_at)))))))), ((up2_ne (by omega)).trans ((upR_ne (by omega)).trans ((upR_ne (by omega)).trans ((up2_ne (by omega)).trans ((up2_ne (by omega)).trans ((up2_ne (by omega)).trans up2_at)))))), ((up2_ne (by omega)).trans ((upR_ne (by omega)).trans ((upR_ne (by omega)).trans ((up2_ne (by omega)).trans ((up2_ne (by omega)).trans up2_at))))), ((up2_ne (by omega)).trans ((upR_ne (by omega)).trans ((upR_ne (by omega)).trans ((up2_ne (by omega)).trans up2_at)))), ((up2_ne (by omega)).trans ((upR_ne (by omega)).trans ((upR_ne (by omega)).trans up2_at))), up2_at⟩, fun s hs => ?_, fun t ht => ?_, fun t ht => ?_, fun k hk => ?_, fun g hg => ⟨?_, ?_⟩⟩
        · rw [show (up2 (upR (upR (up2 (up2 (up2 (up2 (upR (up2 h8 1 7 (N 7)) 5 (cpy (h8 36) (h8 5) 0 0 6)) 1 9 (N 2)) 1 10 (N 3)) 1 11 (N 1)) 1 12 (N 8)) 6 (cpy (h8 37) (h8 6) 0 0 10)) 7 (cpy (h8 38) (h8 7) 0 0 10)) 1 15 (N 0)) (1 + 1) = h7 2 from ((up2_row (by omega)).trans ((upR_rn (by omega)).trans ((upR_rn (by omega)).trans ((up2_row (by omega)).trans ((up2_row (by omega)).trans ((up2_row (by omega)).trans ((up2_row (by omega)).trans ((upR_rn (by omega)).trans ((up2_row (by omega)).trans rfl))))))))).trans ((hF8 2 (by decide)).trans (fG 2 (by decide))), hq7 2 (by omega), eHw, cpy_lt (by omega)]; exact hR.2.1 s hs
        · refine trW_fr (((up2_row (by omega)).trans ((upR_rn (by omega)).trans ((upR_rn (by omega)).trans ((up2_row (by omega)).trans ((up2_row (by omega)).trans ((up2_row (by omega)).trans ((up2_row (by omega)).trans ((upR_rn (by omega)).trans ((up2_row (by omega)).trans rfl))))))))).trans ((hF8 (1 + 7 + 2 * t) (by simp only [List.mem_cons, List.not_mem_nil, or_false]; omega)).trans (fG (1 + 7 + 2 * t) (by omega)))) (((up2_row (by omega)).trans ((upR_rn (by omega)).trans ((upR_rn (by omega)).trans ((up2_row (by omega)).trans ((up2_row (by omega)).trans ((up2_row (by omega)).trans ((up2_row (by omega)).trans ((upR_rn (by omega)).trans ((up2_row (by omega)).trans rfl))))))))).trans ((hF8 (1 + 7 + 2 * t + 1) (by simp only [List.mem_cons, List.not_mem_nil, or_false]; omega)).trans (fG (1 + 7 + 2 * t + 1) (by omega)))) (a7 t (by omega))
        · obtain ⟨q, q1, q2⟩ := hR.2.2.2.1 t ht
          refine ⟨q, ?_, q2⟩
          rw [show (up2 (upR (upR (up2 (up2 (up2 (up2 (upR (up2 h8 1 7 (N 7)) 5 (cpy (h8 36) (h8 5) 0 0 6)) 1 9 (N 2)) 1 10 (N 3)) 1 11 (N 1)) 1 12 (N 8)) 6 (cpy (h8 37) (h8 6) 0 0 10)) 7 (cpy (h8 38) (h8 7) 0 0 10)) 1 15 (N 0)) (1 + 3) = h8 4 from ((up2_row (by omega)).trans ((upR_rn (by omega)).trans ((upR_rn (by omega)).trans ((up2_row (by omega)).trans ((up2_row (by omega)).trans ((up2_row (by omega)).trans ((up2_row (by omega)).trans ((upR_rn (by omega)).trans ((up2_row (by omega)).trans rfl))))))))), a8 t (by omega), fG 35 (by decide), hq7 35 (by omega), eH 35 (by omega)]; exact q1
        · rw [show (up2 (upR (upR (up2 (up2 (up2 (up2 (upR (up2 h8 1 7 (N 7)) 5 (cpy (h8 36) (h8 5) 0 0 6)) 1 9 (N 2)) 1 10 (N 3)) 1 11 (N 1)) 1 12 (N 8)) 6 (cpy (h8 37) (h8 6) 0 0 10)) 7 (cpy (h8 38) (h8 7) 0 0 10)) 1 15 (N 0)) (1 + 4) = _ from ((up2_row (by omega)).trans ((upR_rn (by omega)).trans ((upR_rn (by omega)).trans ((up2_row (by omega)).trans ((up2_row (by omega)).trans ((up2_row (by omega)).trans ((up2_row (by omega)).trans upR_r))))))), cpy_lt (by omega), ((hF8 36 (by decide)).trans ((fG 36 (by decide)).trans ((hq7 36 (by omega)).trans (eH 36 (by omega)))))]; exact hR.2.2.2.2.1 k hk
        · rw [show (up2 (upR (upR (up2 (up2 (up2 (up2 (upR (up2 h8 1 7 (N 7)) 5 (cpy (h8 36) (h8 5) 0 0 6)) 1 9 (N 2)) 1 10 (N 3)) 1 11 (N 1)) 1 12 (N 8)) 6 (cpy (h8 37) (h8 6) 0 0 10)) 7 (cpy (h8 38) (h8 7) 0 0 10)) 1 15 (N 0)) (1 + 5) = _ from ((up2_row (by omega)).trans ((upR_rn (by omega)).trans upR_r)), cpy_lt (by omega), ((hF8 37 (by decide)).trans ((fG 37 (by decide)).trans ((hq7 37 (by omega)).trans (eH 37 (by omega)))))]; exact (hR.2.2.2.2.2 g hg).1
        · rw [show (up2 (upR (upR (up2 (up2 (up2 (up2 (upR (up2 h8 1 7 (N 7)) 5 (cpy (h8 36) (h8 5) 0 0 6)) 1 9 (N 2)) 1 10 (N 3)) 1 11 (N 1)) 1 12 (N 8)) 6 (cpy (h8 37) (h8 6) 0 0 10)) 7 (cpy (h8 38) (h8 7) 0 0 10)) 1 15 (N 0)) (1 + 6) = _ from ((up2_row (by omega)).trans upR_r), cpy_lt (by omega), ((hF8 38 (by decide)).trans ((fG 38 (by decide)).trans ((hq7 38 (by omega)).trans (eH 38 (by omega)))))]; exact (hR.2.2.2.2.2 g hg).2)
