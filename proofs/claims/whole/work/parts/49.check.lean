theorem RC_44 {h : Nat → Nat → Int} {N : Nat → Int} {v : Int} (hC : RC h N) : RC (up2 h 123 44 v) N := by
  have e : ∀ c, ¬ c = 123 → up2 h 123 44 v c = h c := fun c hc => up2_row hc
  unfold RC KA KN CW dlB at hC ⊢
  rw [up2_ne (by decide), up2_ne (by decide), e 127 (by decide), e 128 (by decide), e 129 (by decide), e 130 (by decide), e 133 (by decide), e 134 (by decide), e 135 (by decide), e 136 (by decide)]
  exact hC
theorem cpy_ge {f g : Nat → Int} {n k : Nat} (h : ¬ k < n) : cpy f g 0 0 n k = g k := by
  unfold cpy
  rw [if_neg (by omega)]
set_option maxHeartbeats 8000000 in
theorem q_X9_check {γ : GT} {d : Nat} {n kp told : Int} {N J wr : Nat → Int} {h : Nat → Nat → Int} {τ : List AC} {Post : Option AV → List AC → Prop} (hd : 14 ≤ d) (hN : h 124 = N) (hJ : h 125 = J) (hkp : h 123 3 = kp) (hk01 : kp = 0 ∨ kp = 1) (hKR : kp = 1 → NX J) (hC : RC h N) (ht : h 123 44 = told) (htold : 0 ≤ told ∧ told ≤ 60) (hwr : h 153 = wr) (kQ : ∀ h', Fr [123, 126, 127, 128, 129, 130, 131, 132, 133, 134, 135, 136, 143, 144] h h' → (∀ k, k ≠ 4 → k ≠ 9 → k ≠ 34 → k ≠ 44 → h' 123 k = h 123 k) → h' 123 44 = 0 → RC h' N → Post (some (vI (vCheck kp J wr told n))) (mk h' τ)) : Cj γ mX9_check d 0 0 [vA 123, vI n] (mk h τ) Post := by
  obtain ⟨A, hA⟩ : ∃ A, h 126 = A := ⟨_, rfl⟩
  by_cases hin : 1 ≤ n ∧ n ≤ 30
  · by_cases hno : kp = 0 ∨ J 8 = 0
    · refine c_of (by decide) (Nat.le_of_ble_eq_true rfl) ?_
      show Aj γ mX9_check d 0 0 Post 0 [(0, vA 123), (1, vI n)] [] (mk h τ)
      refine a_aload_n (j := 0) dX9_check_0 rfl rfl (Nat.le_of_ble_eq_true rfl) ?_
      refine b_get (a := 123) (z := told) (t := 0) dX9_check_1 fwX9_323 (by decide) rfl (by decide) rfl rfl ht ?_
      refine a_istore_n (lv' := [(2, vI told), (0, vA 123), (1, vI n)]) dX9_check_4 rfl (by decide) rfl ?_
      refine a_aload_n (j := 1) dX9_check_5 rfl rfl (Nat.le_of_ble_eq_true rfl) ?_
      refine a_iconst dX9_check_6 ⟨by decide, by decide⟩ ?_
      refine b_put (a := 123) (v := vI 0) dX9_check_7 pwX9_323 (fun h => nomatch h) (by decide) rfl (by decide) rfl rfl (fit_int _) ?_
      show Aj γ mX9_check d 0 0 Post 10 [(2, vI told), (0, vA 123), (1, vI n)] [] (mk (up2 h 123 44 0) τ)
      refine a_iload_n (j := 2) dX9_check_10 rfl rfl ?_
      refine a_iconst dX9_check_11 ⟨by decide, by decide⟩ ?_
      refine a_bipush dX9_check_12 ⟨by decide, by decide, by decide⟩ ?_
      refine a_callS (d' := d - 1) (mc' := 0) (ms' := 0) (mc1 := 0) (ms1 := 0) (st := []) [vI n, vI 1, vI 30] dX9_check_14 mwX9_in lkX9_103 rfl (Nat.le_of_ble_eq_true rfl) (by omega) rfl rfl (c_X9_in  (by omega)    (fun t14_1 => ?_) (fun t14_1 => ?_))
      · have t14_1 : 1 ≤ n ∧ n ≤ 30 := t14_1
        show Aj γ mX9_check d 0 0 Post 17 [(2, vI told), (0, vA 123), (1, vI n)] [vI 1] (mk (up2 h 123 44 0) τ)
        refine a_if_ne (tgt := 23) dX9_check_17 (by decide) (fun _ => ?_) (fun c => absurd c (by decide))
        refine a_aload_n (j := 1) dX9_check_23 rfl rfl (Nat.le_of_ble_eq_true rfl) ?_
        refine b_get (a := 123) (z := kp) (t := 0) dX9_check_24 fwX9_326 (by decide) rfl (by decide) rfl rfl ((up2_ne (by omega)).trans hkp) ?_
        refine a_if_eq (tgt := 40) dX9_check_27 (by decide) (fun c27_2 => ?_) (fun c27_2 => ?_)
        · refine a_ldc (z := (-1000000002)) dX9_check_40 kwX9_185 ⟨by decide, by decide, by decide⟩ ?_
          exact a_iret dX9_check_42 rfl (post_v (kQ (up2 h 123 44 0) (Fr_u (by decide) Fr_r) (fun k a b c e => up2_ne (by omega)) up2_at (RC_44 hC)) (by unfold vCheck; rw [if_pos (by omega), if_pos (by omega)]))
        · refine a_aload_n (j := 1) dX9_check_30 rfl rfl (Nat.le_of_ble_eq_true rfl) ?_
          refine b_getp (a := 123) (p := 125) dX9_check_31 fwX9_13 (by decide) rfl (by decide) rfl rfl ?_
          refine a_bipush dX9_check_34 ⟨by decide, by decide, by decide⟩ ?_
          refine b_iaload (a := 125) (z := J 8) 8 dX9_check_36 (by decide) rfl rfl (by decide) rfl ((up2_ne (by omega)).trans (congrFun hJ 8)) (fun r36_3 => ?_)
          refine a_if_ne (tgt := 43) dX9_check_37 (by decide) (fun c37_4 => ?_) (fun c37_4 => ?_)
          · exfalso
            omega
          · refine a_ldc (z := (-1000000002)) dX9_check_40 kwX9_185 ⟨by decide, by decide, by decide⟩ ?_
            exact a_iret dX9_check_42 rfl (post_v (kQ (up2 h 123 44 0) (Fr_u (by decide) Fr_r) (fun k a b c e => up2_ne (by omega)) up2_at (RC_44 hC)) (by unfold vCheck; rw [if_pos (by omega), if_pos (by omega)]))
      · have t14_1 : ¬ (1 ≤ n ∧ n ≤ 30) := t14_1
        show Aj γ mX9_check d 0 0 Post 17 [(2, vI told), (0, vA 123), (1, vI n)] [vI 0] (mk (up2 h 123 44 0) τ)
        refine a_if_ne (tgt := 23) dX9_check_17 (by decide) (fun c => absurd c (by decide)) (fun _ => ?_)
        refine a_ldc (z := (-1000000001)) dX9_check_20 kwX9_146 ⟨by decide, by decide, by decide⟩ ?_
        exact a_iret dX9_check_22 rfl (by exfalso; omega)
    · have hXJ := hKR (by omega)
      have h8J := hXJ.2.2.2.1
      obtain ⟨nn, rfl⟩ : ∃ nn : Nat, n = (nn : Int) := ⟨Int.toNat n, by omega⟩
      obtain ⟨G, hG⟩ : ∃ G : Nat, J 8 = (G : Int) := ⟨Int.toNat (J 8), by omega⟩
      have hGe : Int.toNat (J 8) = G := by omega
      obtain ⟨T, hTe⟩ : ∃ T, tt J = T := ⟨_, rfl⟩
      obtain ⟨J', hJ'⟩ : ∃ J', cpy J N 0 0 1545 = J' := ⟨_, rfl⟩
      have hE : E5 J J' := fun k hk => by rw [← hJ']; exact cpy_lt hk
      have hXJ' : NX J' := NX_v hE hXJ
      have hTJ : tt J' = T := (tt_v hE hXJ).trans hTe
      have hG' : J' 8 = (G : Int) := (hE 8 (by decide)).trans hG
      have hck : ckF T J' wr G told nn 0 (J' 0) = ckF T J wr G told nn 0 (J 0) := by
        rw [hE 0 (by decide)]; exact ckF_ext (by omega) (fun k h1 h2 => hE k (by omega)) _ _ _
      have hckr := ckF_rng (T := T) (J := J) (wr := wr) (G := G) (told := told) nn 0 (J 0)
      refine c_of (by decide) (Nat.le_of_ble_eq_true rfl) ?_
      show Aj γ mX9_check d 0 0 Post 0 [(0, vA 123), (1, vI ((nn : Nat) : Int))] [] (mk h τ)
      refine a_aload_n (j := 0) dX9_check_0 rfl rfl (Nat.le_of_ble_eq_true rfl) ?_
      refine b_get (a := 123) (z := told) (t := 0) dX9_check_1 fwX9_323 (by decide) rfl (by decide) rfl rfl ht ?_
      refine a_istore_n (lv' := [(2, vI told), (0, vA 123), (1, vI ((nn : Nat) : Int))]) dX9_check_4 rfl (by decide) rfl ?_
      refine a_aload_n (j := 1) dX9_check_5 rfl rfl (Nat.le_of_ble_eq_true rfl) ?_
      refine a_iconst dX9_check_6 ⟨by decide, by decide⟩ ?_
      refine b_put (a := 123) (v := vI 0) dX9_check_7 pwX9_323 (fun h => nomatch h) (by decide) rfl (by decide) rfl rfl (fit_int _) ?_
      show Aj γ mX9_check d 0 0 Post 10 [(2, vI told), (0, vA 123), (1, vI ((nn : Nat) : Int))] [] (mk (up2 h 123 44 0) τ)
      refine a_iload_n (j := 2) dX9_check_10 rfl rfl ?_
      refine a_iconst dX9_check_11 ⟨by decide, by decide⟩ ?_
      refine a_bipush dX9_check_12 ⟨by decide, by decide, by decide⟩ ?_
      refine a_callS (d' := d - 1) (mc' := 0) (ms' := 0) (mc1 := 0) (ms1 := 0) (st := []) [vI ((nn : Nat) : Int), vI 1, vI 30] dX9_check_14 mwX9_in lkX9_103 rfl (Nat.le_of_ble_eq_true rfl) (by omega) rfl rfl (c_X9_in  (by omega)    (fun t14_1 => ?_) (fun t14_1 => ?_))
      · have t14_1 : 1 ≤ ((nn : Nat) : Int) ∧ ((nn : Nat) : Int) ≤ 30 := t14_1
        show Aj γ mX9_check d 0 0 Post 17 [(2, vI told), (0, vA 123), (1, vI ((nn : Nat) : Int))] [vI 1] (mk (up2 h 123 44 0) τ)
        refine a_if_ne (tgt := 23) dX9_check_17 (by decide) (fun _ => ?_) (fun c => absurd c (by decide))
        refine a_aload_n (j := 1) dX9_check_23 rfl rfl (Nat.le_of_ble_eq_true rfl) ?_
        refine b_get (a := 123) (z := kp) (t := 0) dX9_check_24 fwX9_326 (by decide) rfl (by decide) rfl rfl ((up2_ne (by omega)).trans hkp) ?_
        refine a_if_eq (tgt := 40) dX9_check_27 (by decide) (fun c27_2 => ?_) (fun c27_2 => ?_)
        · refine a_ldc (z := (-1000000002)) dX9_check_40 kwX9_185 ⟨by decide, by decide, by decide⟩ ?_
          exact a_iret dX9_check_42 rfl (by exfalso; omega)
        · refine a_aload_n (j := 1) dX9_check_30 rfl rfl (Nat.le_of_ble_eq_true rfl) ?_
          refine b_getp (a := 123) (p := 125) dX9_check_31 fwX9_13 (by decide) rfl (by decide) rfl rfl ?_
          refine a_bipush dX9_check_34 ⟨by decide, by decide, by decide⟩ ?_
          refine b_iaload (a := 125) (z := J 8) 8 dX9_check_36 (by decide) rfl rfl (by decide) rfl ((up2_ne (by omega)).trans (congrFun hJ 8)) (fun r36_3 => ?_)
          refine a_if_ne (tgt := 43) dX9_check_37 (by decide) (fun c37_4 => ?_) (fun c37_4 => ?_)
          · refine a_aload_n (j := 1) dX9_check_43 rfl rfl (Nat.le_of_ble_eq_true rfl) ?_
            refine b_getp (a := 123) (p := 124) dX9_check_44 fwX9_9 (by decide) rfl (by decide) rfl rfl ?_
            refine a_aload_n (j := 1) dX9_check_47 rfl rfl (Nat.le_of_ble_eq_true rfl) ?_
            refine b_getp (a := 123) (p := 126) dX9_check_48 fwX9_16 (by decide) rfl (by decide) rfl rfl ?_
            refine a_callS (d' := d - 1) (mc' := 0) (ms' := 0) (mc1 := 0) (ms1 := 0) (st := []) [vA 124, vA 126] dX9_check_51 mwX9_copyAll lkX9_329 rfl (Nat.le_of_ble_eq_true rfl) (by omega) rfl rfl (c_X9_copyAll (f := N) (g := A) (by omega) (by decide) ((up2_row (by omega)).trans hN) ((up2_row (by omega)).trans hA) ?_)
            show Aj γ mX9_check d 0 0 Post 54 [(2, vI told), (0, vA 123), (1, vI ((nn : Nat) : Int))] [] (mk (upR (up2 h 123 44 0) 126 (cpy N A 0 0 1545)) τ)
            refine a_aload_n (j := 1) dX9_check_54 rfl rfl (Nat.le_of_ble_eq_true rfl) ?_
            refine b_getp (a := 123) (p := 125) dX9_check_55 fwX9_13 (by decide) rfl (by decide) rfl rfl ?_
            refine a_aload_n (j := 1) dX9_check_58 rfl rfl (Nat.le_of_ble_eq_true rfl) ?_
            refine b_getp (a := 123) (p := 124) dX9_check_59 fwX9_9 (by decide) rfl (by decide) rfl rfl ?_
            refine a_callS (d' := d - 1) (mc' := 0) (ms' := 0) (mc1 := 0) (ms1 := 0) (st := []) [vA 125, vA 124] dX9_check_62 mwX9_copyAll lkX9_329 rfl (Nat.le_of_ble_eq_true rfl) (by omega) rfl rfl (c_X9_copyAll (f := J) (g := N) (by omega) (by decide) ((upR_rn (by omega)).trans ((up2_row (by omega)).trans hJ)) ((upR_rn (by omega)).trans ((up2_row (by omega)).trans hN)) ?_)
            show Aj γ mX9_check d 0 0 Post 65 [(2, vI told), (0, vA 123), (1, vI ((nn : Nat) : Int))] [] (mk (upR (upR (up2 h 123 44 0) 126 (cpy N A 0 0 1545)) 124 (cpy J N 0 0 1545)) τ)
            refine a_aload_n (j := 1) dX9_check_65 rfl rfl (Nat.le_of_ble_eq_true rfl) ?_
            refine a_iconst dX9_check_66 ⟨by decide, by decide⟩ ?_
            refine b_put (a := 123) (v := vI 0) dX9_check_67 pwX9_111 (fun h => nomatch h) (by decide) rfl (by decide) rfl rfl (fit_bool (by first | exact Or.inl rfl | exact Or.inr rfl | omega)) ?_
            show Aj γ mX9_check d 0 0 Post 70 [(2, vI told), (0, vA 123), (1, vI ((nn : Nat) : Int))] [] (mk (up2 (upR (upR (up2 h 123 44 0) 126 (cpy N A 0 0 1545)) 124 (cpy J N 0 0 1545)) 123 4 0) τ)
            refine a_aload_n (j := 1) dX9_check_70 rfl rfl (Nat.le_of_ble_eq_true rfl) ?_
            refine a_iload_n (j := 2) dX9_check_71 rfl rfl ?_
            refine a_iload_n (j := 0) dX9_check_72 rfl rfl ?_
            generalize hHH : (up2 (upR (upR (up2 h 123 44 0) 126 (cpy N A 0 0 1545)) 124 (cpy J N 0 0 1545)) 123 4 0) = H
            have e4 : H 124 = J' := by rw [← hHH, ← hJ']; exact ((up2_row (by omega)).trans upR_r)
            have e6 : H 126 = cpy N A 0 0 1545 := by rw [← hHH]; exact ((up2_row (by omega)).trans ((upR_rn (by omega)).trans upR_r))
            have e130 : H 130 = h 130 := by rw [← hHH]; exact ((up2_row (by decide)).trans ((upR_rn (by decide)).trans ((upR_rn (by decide)).trans ((up2_row (by decide)).trans rfl))))
            have e153 : H 153 = h 153 := by rw [← hHH]; exact ((up2_row (by decide)).trans ((upR_rn (by decide)).trans ((upR_rn (by decide)).trans ((up2_row (by decide)).trans rfl))))
            have e1234 : H 123 4 = 0 := by rw [← hHH]; exact up2_at
            have e44 : H 123 44 = 0 := by rw [← hHH]; exact ((up2_ne (by omega)).trans ((upR_ne (by omega)).trans ((upR_ne (by omega)).trans up2_at)))
            have ek : ∀ k, k ≠ 4 → k ≠ 44 → H 123 k = h 123 k := fun k a b => by rw [← hHH]; exact ((up2_ne (by omega)).trans ((upR_ne (by decide)).trans ((upR_ne (by decide)).trans ((up2_ne (by omega)).trans rfl))))
            have eF : Fr [123, 124, 126] h H := by rw [← hHH]; exact (Fr_u (by decide) (Fr_R (by decide) (Fr_R (by decide) (Fr_u (by decide) Fr_r))))
            refine b_callV (d' := d - 1) (mc' := 0) (ms' := 0) (mc1 := 0) (ms1 := 0) (st := []) (b := 123) [vI ((nn : Nat) : Int), vI told] dX9_check_73 mwX9_rightRides lkX9_333 (by decide) rfl rc_X9 rfl (Nat.le_of_ble_eq_true rfl) (by omega) rfl rfl (c_X9_rightRides (T := T) (J := J') (wr := wr) (G := G) (n := nn) (told := told) (z := J' 0) (by omega) hTJ (fun k _ => congrFun e4 k) hXJ' (by omega) (by omega) (by omega) htold (e153.trans hwr) ⟨Or.inl e1234, fun q => by omega, fun q hq => by rw [e130]; exact hC.2.2 q hq⟩ (congrFun e4 0) (fun h8 z8 hF8 a8 b8 d8 c8 => ?_))
            rw [hck]
            show Aj γ mX9_check d 0 0 Post 76 [(2, vI told), (0, vA 123), (1, vI ((nn : Nat) : Int))] [vI (ckF T J wr G told nn 0 (J 0))] (mk h8 τ)
            refine a_istore_n (lv' := [(3, vI (ckF T J wr G told nn 0 (J 0))), (2, vI told), (0, vA 123), (1, vI ((nn : Nat) : Int))]) dX9_check_76 rfl (by decide) rfl ?_
            refine a_aload_n (j := 2) dX9_check_77 rfl rfl (Nat.le_of_ble_eq_true rfl) ?_
            refine b_getp (a := 123) (p := 126) dX9_check_78 fwX9_16 (by decide) rfl (by decide) rfl rfl ?_
            refine a_aload_n (j := 2) dX9_check_81 rfl rfl (Nat.le_of_ble_eq_true rfl) ?_
            refine b_getp (a := 123) (p := 124) dX9_check_82 fwX9_9 (by decide) rfl (by decide) rfl rfl ?_
            refine a_callS (d' := d - 1) (mc' := 0) (ms' := 0) (mc1 := 0) (ms1 := 0) (st := []) [vA 126, vA 124] dX9_check_85 mwX9_copyAll lkX9_329 rfl (Nat.le_of_ble_eq_true rfl) (by omega) rfl rfl (c_X9_copyAll (f := (h8 126)) (g := (h8 124)) (by omega) (by decide) rfl rfl ?_)
            show Aj γ mX9_check d 0 0 Post 88 [(3, vI (ckF T J wr G told nn 0 (J 0))), (2, vI told), (0, vA 123), (1, vI ((nn : Nat) : Int))] [] (mk (upR h8 124 (cpy (h8 126) (h8 124) 0 0 1545)) τ)
            refine a_aload_n (j := 2) dX9_check_88 rfl rfl (Nat.le_of_ble_eq_true rfl) ?_
            refine a_iconst dX9_check_89 ⟨by decide, by decide⟩ ?_
            refine b_put (a := 123) (v := vI 0) dX9_check_90 pwX9_111 (fun h => nomatch h) (by decide) rfl (by decide) rfl rfl (fit_bool (by first | exact Or.inl rfl | exact Or.inr rfl | omega)) ?_
            show Aj γ mX9_check d 0 0 Post 93 [(3, vI (ckF T J wr G told nn 0 (J 0))), (2, vI told), (0, vA 123), (1, vI ((nn : Nat) : Int))] [] (mk (up2 (upR h8 124 (cpy (h8 126) (h8 124) 0 0 1545)) 123 4 0) τ)
            refine a_iload_n (j := 0) dX9_check_93 rfl rfl ?_
            refine a_iload_n (j := 1) dX9_check_94 rfl rfl ?_
            refine a_icmp_ne (tgt := 109) dX9_check_95 (by decide) (fun c95_5 => ?_) (fun c95_5 => ?_)
            · refine a_iconst dX9_check_109 ⟨by decide, by decide⟩ ?_
              refine a_iload_n (j := 0) dX9_check_110 rfl rfl ?_
              refine a_iadd (z := (1 + (ckF T J wr G told nn 0 (J 0)))) dX9_check_111 (w_ok (by omega) (by omega)) ?_
              exact a_iret dX9_check_112 rfl (by
          refine post_v (kQ _ (fun c hc => ?_) (fun k a b c e => (up2_ne (by omega)).trans ((upR_ne (by decide)).trans ((d8 k a b c).trans (ek k a e)))) ((up2_ne (by decide)).trans ((upR_ne (by decide)).trans ((d8 44 (by decide) (by decide) (by decide)).trans e44))) ⟨Or.inl up2_at, fun q => absurd (up2_at.symm.trans q) (by decide), fun q hq => by rw [show (up2 (upR h8 124 (cpy (h8 126) (h8 124) 0 0 1545)) 123 4 0) 130 = h8 130 from (up2_row (by decide)).trans (upR_rn (by decide))]; exact c8.2.2 q hq⟩) ?_
          · by_cases c4 : c = 124
            · subst c4
              rw [up2_row (by decide), upR_r, hN]
              funext k
              by_cases ck : k < 1545
              · rw [cpy_lt ck, hF8 126 (by decide), e6, cpy_lt ck]
              · rw [cpy_ge ck, a8 k (by omega), e4, ← hJ']; exact cpy_ge ck
            · have h0 : c ≠ 123 := fun q => hc (by rw [q]; decide)
              have h1 : c ≠ 126 := fun q => hc (by rw [q]; decide)
              rw [up2_row h0, upR_rn c4, hF8 c (fun q => hc ((by decide : ∀ c, c ∈ [123, 124, 127, 128, 129, 130, 131, 132, 133, 134, 135, 136, 143, 144] → c ≠ 124 → c ∈ [123, 126, 127, 128, 129, 130, 131, 132, 133, 134, 135, 136, 143, 144]) c q c4)), eF c (by simp only [List.mem_cons, List.not_mem_nil, or_false]; omega)]
          · unfold vCheck; rw [if_pos (by omega), if_neg (by omega), hTe, hGe, Int.toNat_natCast]; rw [if_neg (by omega)])
            · refine a_iload_n (j := 0) dX9_check_98 rfl rfl ?_
              refine a_iconst dX9_check_99 ⟨by decide, by decide⟩ ?_
              refine a_iload_n (j := 3) dX9_check_100 rfl rfl ?_
              refine a_imul (z := (2 * ((nn : Nat) : Int))) dX9_check_101 (w_ok (by omega) (by omega)) ?_
              refine a_icmp_ne (tgt := 109) dX9_check_102 (by decide) (fun c102_6 => ?_) (fun c102_6 => ?_)
              · refine a_iconst dX9_check_109 ⟨by decide, by decide⟩ ?_
                refine a_iload_n (j := 0) dX9_check_110 rfl rfl ?_
                refine a_iadd (z := (1 + (ckF T J wr G told nn 0 (J 0)))) dX9_check_111 (w_ok (by omega) (by omega)) ?_
                exact a_iret dX9_check_112 rfl (by
          refine post_v (kQ _ (fun c hc => ?_) (fun k a b c e => (up2_ne (by omega)).trans ((upR_ne (by decide)).trans ((d8 k a b c).trans (ek k a e)))) ((up2_ne (by decide)).trans ((upR_ne (by decide)).trans ((d8 44 (by decide) (by decide) (by decide)).trans e44))) ⟨Or.inl up2_at, fun q => absurd (up2_at.symm.trans q) (by decide), fun q hq => by rw [show (up2 (upR h8 124 (cpy (h8 126) (h8 124) 0 0 1545)) 123 4 0) 130 = h8 130 from (up2_row (by decide)).trans (upR_rn (by decide))]; exact c8.2.2 q hq⟩) ?_
          · by_cases c4 : c = 124
            · subst c4
              rw [up2_row (by decide), upR_r, hN]
              funext k
              by_cases ck : k < 1545
              · rw [cpy_lt ck, hF8 126 (by decide), e6, cpy_lt ck]
              · rw [cpy_ge ck, a8 k (by omega), e4, ← hJ']; exact cpy_ge ck
            · have h0 : c ≠ 123 := fun q => hc (by rw [q]; decide)
              have h1 : c ≠ 126 := fun q => hc (by rw [q]; decide)
              rw [up2_row h0, upR_rn c4, hF8 c (fun q => hc ((by decide : ∀ c, c ∈ [123, 124, 127, 128, 129, 130, 131, 132, 133, 134, 135, 136, 143, 144] → c ≠ 124 → c ∈ [123, 126, 127, 128, 129, 130, 131, 132, 133, 134, 135, 136, 143, 144]) c q c4)), eF c (by simp only [List.mem_cons, List.not_mem_nil, or_false]; omega)]
          · unfold vCheck; rw [if_pos (by omega), if_neg (by omega), hTe, hGe, Int.toNat_natCast]; rw [if_neg (by omega)])
              · refine a_iconst dX9_check_105 ⟨by decide, by decide⟩ ?_
                refine a_goto (tgt := 112) dX9_check_106 (by decide) ?_
                exact a_iret dX9_check_112 rfl (by
          refine post_v (kQ _ (fun c hc => ?_) (fun k a b c e => (up2_ne (by omega)).trans ((upR_ne (by decide)).trans ((d8 k a b c).trans (ek k a e)))) ((up2_ne (by decide)).trans ((upR_ne (by decide)).trans ((d8 44 (by decide) (by decide) (by decide)).trans e44))) ⟨Or.inl up2_at, fun q => absurd (up2_at.symm.trans q) (by decide), fun q hq => by rw [show (up2 (upR h8 124 (cpy (h8 126) (h8 124) 0 0 1545)) 123 4 0) 130 = h8 130 from (up2_row (by decide)).trans (upR_rn (by decide))]; exact c8.2.2 q hq⟩) ?_
          · by_cases c4 : c = 124
            · subst c4
              rw [up2_row (by decide), upR_r, hN]
              funext k
              by_cases ck : k < 1545
              · rw [cpy_lt ck, hF8 126 (by decide), e6, cpy_lt ck]
              · rw [cpy_ge ck, a8 k (by omega), e4, ← hJ']; exact cpy_ge ck
            · have h0 : c ≠ 123 := fun q => hc (by rw [q]; decide)
              have h1 : c ≠ 126 := fun q => hc (by rw [q]; decide)
              rw [up2_row h0, upR_rn c4, hF8 c (fun q => hc ((by decide : ∀ c, c ∈ [123, 124, 127, 128, 129, 130, 131, 132, 133, 134, 135, 136, 143, 144] → c ≠ 124 → c ∈ [123, 126, 127, 128, 129, 130, 131, 132, 133, 134, 135, 136, 143, 144]) c q c4)), eF c (by simp only [List.mem_cons, List.not_mem_nil, or_false]; omega)]
          · unfold vCheck; rw [if_pos (by omega), if_neg (by omega), hTe, hGe, Int.toNat_natCast]; rw [if_pos (by omega)])
          · refine a_ldc (z := (-1000000002)) dX9_check_40 kwX9_185 ⟨by decide, by decide, by decide⟩ ?_
            exact a_iret dX9_check_42 rfl (by exfalso; omega)
      · have t14_1 : ¬ (1 ≤ ((nn : Nat) : Int) ∧ ((nn : Nat) : Int) ≤ 30) := t14_1
        show Aj γ mX9_check d 0 0 Post 17 [(2, vI told), (0, vA 123), (1, vI ((nn : Nat) : Int))] [vI 0] (mk (up2 h 123 44 0) τ)
        refine a_if_ne (tgt := 23) dX9_check_17 (by decide) (fun c => absurd c (by decide)) (fun _ => ?_)
        refine a_ldc (z := (-1000000001)) dX9_check_20 kwX9_146 ⟨by decide, by decide, by decide⟩ ?_
        exact a_iret dX9_check_22 rfl (by exfalso; omega)
  · refine c_of (by decide) (Nat.le_of_ble_eq_true rfl) ?_
    show Aj γ mX9_check d 0 0 Post 0 [(0, vA 123), (1, vI n)] [] (mk h τ)
    refine a_aload_n (j := 0) dX9_check_0 rfl rfl (Nat.le_of_ble_eq_true rfl) ?_
    refine b_get (a := 123) (z := told) (t := 0) dX9_check_1 fwX9_323 (by decide) rfl (by decide) rfl rfl ht ?_
    refine a_istore_n (lv' := [(2, vI told), (0, vA 123), (1, vI n)]) dX9_check_4 rfl (by decide) rfl ?_
    refine a_aload_n (j := 1) dX9_check_5 rfl rfl (Nat.le_of_ble_eq_true rfl) ?_
    refine a_iconst dX9_check_6 ⟨by decide, by decide⟩ ?_
    refine b_put (a := 123) (v := vI 0) dX9_check_7 pwX9_323 (fun h => nomatch h) (by decide) rfl (by decide) rfl rfl (fit_int _) ?_
    show Aj γ mX9_check d 0 0 Post 10 [(2, vI told), (0, vA 123), (1, vI n)] [] (mk (up2 h 123 44 0) τ)
    refine a_iload_n (j := 2) dX9_check_10 rfl rfl ?_
    refine a_iconst dX9_check_11 ⟨by decide, by decide⟩ ?_
    refine a_bipush dX9_check_12 ⟨by decide, by decide, by decide⟩ ?_
    refine a_callS (d' := d - 1) (mc' := 0) (ms' := 0) (mc1 := 0) (ms1 := 0) (st := []) [vI n, vI 1, vI 30] dX9_check_14 mwX9_in lkX9_103 rfl (Nat.le_of_ble_eq_true rfl) (by omega) rfl rfl (c_X9_in  (by omega)    (fun t14_1 => ?_) (fun t14_1 => ?_))
    · have t14_1 : 1 ≤ n ∧ n ≤ 30 := t14_1
      show Aj γ mX9_check d 0 0 Post 17 [(2, vI told), (0, vA 123), (1, vI n)] [vI 1] (mk (up2 h 123 44 0) τ)
      refine a_if_ne (tgt := 23) dX9_check_17 (by decide) (fun _ => ?_) (fun c => absurd c (by decide))
      exfalso
      omega
    · have t14_1 : ¬ (1 ≤ n ∧ n ≤ 30) := t14_1
      show Aj γ mX9_check d 0 0 Post 17 [(2, vI told), (0, vA 123), (1, vI n)] [vI 0] (mk (up2 h 123 44 0) τ)
      refine a_if_ne (tgt := 23) dX9_check_17 (by decide) (fun c => absurd c (by decide)) (fun _ => ?_)
      refine a_ldc (z := (-1000000001)) dX9_check_20 kwX9_146 ⟨by decide, by decide, by decide⟩ ?_
      exact a_iret dX9_check_22 rfl (post_v (kQ (up2 h 123 44 0) (Fr_u (by decide) Fr_r) (fun k a b c e => up2_ne (by omega)) up2_at (RC_44 hC)) (by unfold vCheck; rw [if_neg (by omega)]))
