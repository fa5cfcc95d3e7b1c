set_option maxHeartbeats 8000000 in
theorem c_X9_walkOf {γ : GT} {d : Nat} {s : Nat} {N : Nat → Int} {h : Nat → Nat → Int} {τ : List AC} {Post : Option AV → List AC → Prop} (hd : 2 ≤ d) (hs : s < 6) (hN : h 124 = N) (hx : txOK N) (kQ : ∀ h', Fr [143, 144] h h' → Post (some (vI (wkN N s))) (mk h' τ)) : Cj γ mX9_walkOf d 0 0 [vA 123, vI ((s : Nat) : Int)] (mk h τ) Post := by
  subst hN
  have hx1 := hx.1
  have hcn := cnN_rng hx 2
  refine c_of (by decide) (Nat.le_of_ble_eq_true rfl) ?_
  show Aj γ mX9_walkOf d 0 0 Post 0 [(0, vA 123), (1, vI ((s : Nat) : Int))] [] (mk h τ)
  refine a_aload_n (j := 0) dX9_walkOf_0 rfl rfl (Nat.le_of_ble_eq_true rfl) ?_
  refine a_iconst dX9_walkOf_1 ⟨by decide, by decide⟩ ?_
  refine b_callV (d' := d - 1) (mc' := 0) (ms' := 0) (mc1 := 0) (ms1 := 0) (st := []) (b := 123) [vI 2] dX9_walkOf_2 mwX9_counts lkX9_116 (by decide) rfl rc_X9 rfl (Nat.le_of_ble_eq_true rfl) (by omega) rfl rfl (c_X9_counts (v := h 124 6) (by omega) rfl (by omega) hx.2.1 ?_)
  show Aj γ mX9_walkOf d 0 0 Post 5 [(0, vA 123), (1, vI ((s : Nat) : Int))] [vI (cnN (h 124) 2)] (mk h τ)
  refine a_istore_n (lv' := [(2, vI (cnN (h 124) 2)), (0, vA 123), (1, vI ((s : Nat) : Int))]) dX9_walkOf_5 rfl (by decide) rfl ?_
  refine a_aload_n (j := 1) dX9_walkOf_6 rfl rfl (Nat.le_of_ble_eq_true rfl) ?_
  refine b_getp (a := 123) (p := 144) dX9_walkOf_7 fwX9_73 (by decide) rfl (by decide) rfl rfl ?_
  refine a_iconst dX9_walkOf_10 ⟨by decide, by decide⟩ ?_
  refine a_iload_n (j := 2) dX9_walkOf_11 rfl rfl ?_
  refine b_iastore (a := 144) 0 dX9_walkOf_12 (by decide) rfl rfl (by decide) rfl ?_
  refine a_aload_n (j := 1) dX9_walkOf_13 rfl rfl (Nat.le_of_ble_eq_true rfl) ?_
  refine b_getp (a := 123) (p := 144) dX9_walkOf_14 fwX9_73 (by decide) rfl (by decide) rfl rfl ?_
  refine a_iconst dX9_walkOf_17 ⟨by decide, by decide⟩ ?_
  refine a_aload_n (j := 1) dX9_walkOf_18 rfl rfl (Nat.le_of_ble_eq_true rfl) ?_
  refine b_getp (a := 123) (p := 124) dX9_walkOf_19 fwX9_9 (by decide) rfl (by decide) rfl rfl ?_
  refine a_bipush dX9_walkOf_22 ⟨by decide, by decide, by decide⟩ ?_
  refine a_iload_n (j := 2) dX9_walkOf_24 rfl rfl ?_
  refine a_iadd (z := (9 + ((s : Nat) : Int))) dX9_walkOf_25 (w_ok (by omega) (by omega)) ?_
  refine b_iaload (a := 124) (z := h 124 (9 + s)) (9 + s) dX9_walkOf_26 (by decide) rfl (by omega) (by omega) (sp_nil rfl _) ((up2_ne (by omega)).trans rfl) (fun r26_1 => ?_)
  refine b_iastore (a := 144) 1 dX9_walkOf_27 (by decide) rfl rfl (by decide) rfl ?_
  refine a_aload_n (j := 1) dX9_walkOf_28 rfl rfl (Nat.le_of_ble_eq_true rfl) ?_
  refine b_getp (a := 123) (p := 144) dX9_walkOf_29 fwX9_73 (by decide) rfl (by decide) rfl rfl ?_
  refine a_iconst dX9_walkOf_32 ⟨by decide, by decide⟩ ?_
  refine a_aload_n (j := 1) dX9_walkOf_33 rfl rfl (Nat.le_of_ble_eq_true rfl) ?_
  refine b_getp (a := 123) (p := 124) dX9_walkOf_34 fwX9_9 (by decide) rfl (by decide) rfl rfl ?_
  refine a_iconst dX9_walkOf_37 ⟨by decide, by decide⟩ ?_
  refine b_iaload (a := 124) (z := h 124 1) 1 dX9_walkOf_38 (by decide) rfl rfl (by decide) rfl ((up2_ne (by omega)).trans ((up2_ne (by omega)).trans rfl)) (fun r38_2 => ?_)
  refine b_iastore (a := 144) 2 dX9_walkOf_39 (by decide) rfl rfl (by decide) rfl ?_
  refine a_iload_n (j := 0) dX9_walkOf_40 rfl rfl ?_
  refine a_if_ge (tgt := 56) dX9_walkOf_41 (by decide) (fun c41_3 => ?_) (fun c41_3 => ?_)
  · refine a_aload_n (j := 1) dX9_walkOf_56 rfl rfl (Nat.le_of_ble_eq_true rfl) ?_
    refine a_iload_n (j := 0) dX9_walkOf_57 rfl rfl ?_
    obtain ⟨ct, hct⟩ : ∃ ct : Nat, (cnN (h 124) 2) = (ct : Int) := ⟨Int.toNat (cnN (h 124) 2), by omega⟩
    have hx3 := hx.2.2 ct (by omega)
    have hx2 := hx.2.1 ct (by omega)
    have hcl : h 124 (173 + 2 * ct) % 1000 = ((lnN (h 124) ct : Nat) : Int) := by unfold lnN; omega
    rw [hct]
    refine b_callV (d' := d - 1) (mc' := 0) (ms' := 0) (mc1 := 0) (ms1 := 0) (st := []) (b := 123) [vI ((ct : Nat) : Int)] dX9_walkOf_58 mwX9_worksOut lkX9_120 (by decide) rfl rc_X9 rfl (Nat.le_of_ble_eq_true rfl) (by omega) rfl rfl (c_X9_worksOut (t := ct) (n := lnN (h 124) ct) (v := h 124 (173 + 2 * ct)) (fa := (fc3 s (h 124 (9 + s)) (h 124 1))) (cd := cdN (h 124) ct) (by omega) (by omega) ((up2_ne (by omega)).trans ((up2_ne (by omega)).trans ((up2_ne (by omega)).trans rfl))) hx2 hcl (by omega) hx3.2.1 (fun k _ => congrFun ((up2_row (by omega)).trans ((up2_row (by omega)).trans ((up2_row (by omega)).trans rfl))) _) ?_ (fun g => ?_))
    · intro k hk
      rcases (show k = 0 ∨ k = 1 ∨ k = 2 by omega) with rfl | rfl | rfl
      · exact ((up2_ne (by omega)).trans ((up2_ne (by omega)).trans up2_at))
      · exact ((up2_ne (by omega)).trans up2_at)
      · exact up2_at
    · show Aj γ mX9_walkOf d 0 0 Post 61 [(2, vI ((ct : Nat) : Int)), (0, vA 123), (1, vI ((s : Nat) : Int))] [vI (woN (h 124) ct (fc3 s (h 124 (9 + s)) (h 124 1)))] (mk (upR (up2 (up2 (up2 h 144 0 ((s : Nat) : Int)) 144 1 (h 124 (9 + s))) 144 2 (h 124 1)) 143 g) τ)
      refine a_iconst dX9_walkOf_61 ⟨by decide, by decide⟩ ?_
      refine a_bipush dX9_walkOf_62 ⟨by decide, by decide, by decide⟩ ?_
      refine a_callS (d' := d - 1) (mc' := 0) (ms' := 0) (mc1 := 0) (ms1 := 0) (st := []) [vI (woN (h 124) ct (fc3 s (h 124 (9 + s)) (h 124 1))), vI 0, vI 99] dX9_walkOf_64 mwX9_within lkX9_123 rfl (Nat.le_of_ble_eq_true rfl) (by omega) rfl rfl (c_X9_within  (by omega)    ?_)
      show Aj γ mX9_walkOf d 0 0 Post 67 [(2, vI ((ct : Nat) : Int)), (0, vA 123), (1, vI ((s : Nat) : Int))] [vI (hw (woN (h 124) ct (fc3 s (h 124 (9 + s)) (h 124 1))) 0 99)] (mk (upR (up2 (up2 (up2 h 144 0 ((s : Nat) : Int)) 144 1 (h 124 (9 + s))) 144 2 (h 124 1)) 143 g) τ)
      exact a_iret dX9_walkOf_67 rfl (by have e : wkN (h 124) s = (hw (woN (h 124) ct (fc3 s (h 124 (9 + s)) (h 124 1))) 0 99) := (by unfold wkN; rw [if_neg (by omega), hct] <;> rfl); rw [e] at kQ; exact kQ _ (Fr_R (by decide) (Fr_u (by decide) (Fr_u (by decide) (Fr_u (by decide) Fr_r)))))
  · refine a_aload_n (j := 1) dX9_walkOf_44 rfl rfl (Nat.le_of_ble_eq_true rfl) ?_
    refine b_getp (a := 123) (p := 124) dX9_walkOf_45 fwX9_9 (by decide) rfl (by decide) rfl rfl ?_
    refine a_bipush dX9_walkOf_48 ⟨by decide, by decide, by decide⟩ ?_
    refine a_iload_n (j := 2) dX9_walkOf_50 rfl rfl ?_
    refine a_iadd (z := (9 + ((s : Nat) : Int))) dX9_walkOf_51 (w_ok (by omega) (by omega)) ?_
    refine b_iaload (a := 124) (z := h 124 (9 + s)) (9 + s) dX9_walkOf_52 (by decide) rfl (by omega) (by omega) (sp_nil rfl _) ((up2_ne (by omega)).trans ((up2_ne (by omega)).trans ((up2_ne (by omega)).trans rfl))) (fun r52_4 => ?_)
    refine a_goto (tgt := 67) dX9_walkOf_53 (by decide) ?_
    exact a_iret dX9_walkOf_67 rfl (by have e : wkN (h 124) s = h 124 (9 + s) := (by unfold wkN; rw [if_pos (by omega)] <;> first | rfl | (unfold uwF; (repeat' split) <;> omega)); rw [e] at kQ; exact kQ _ (Fr_u (by decide) (Fr_u (by decide) (Fr_u (by decide) Fr_r))))
set_option maxHeartbeats 8000000 in
theorem c_X9_waitsOf {γ : GT} {d : Nat} {t : Nat} {N : Nat → Int} {h : Nat → Nat → Int} {τ : List AC} {Post : Option AV → List AC → Prop} (hd : 2 ≤ d) (hs : t < 12) (hN : h 124 = N) (hx : txOK N) (hk : 0 ≤ N (15 + 11 * t) ∧ N (15 + 11 * t) ≤ 5) (kQ : ∀ h', Fr [143, 144] h h' → Post (some (vI (wtN N t))) (mk h' τ)) : Cj γ mX9_waitsOf d 0 0 [vA 123, vI ((t : Nat) : Int)] (mk h τ) Post := by
  subst hN
  have hx1 := hx.1
  have hcn := cnN_rng hx 0
  refine c_of (by decide) (Nat.le_of_ble_eq_true rfl) ?_
  show Aj γ mX9_waitsOf d 0 0 Post 0 [(0, vA 123), (1, vI ((t : Nat) : Int))] [] (mk h τ)
  refine a_aload_n (j := 0) dX9_waitsOf_0 rfl rfl (Nat.le_of_ble_eq_true rfl) ?_
  refine a_iload_n (j := 1) dX9_waitsOf_1 rfl rfl ?_
  refine a_iconst dX9_waitsOf_2 ⟨by decide, by decide⟩ ?_
  refine b_callV (d' := d - 1) (mc' := 0) (ms' := 0) (mc1 := 0) (ms1 := 0) (st := []) (b := 123) [vI ((t : Nat) : Int), vI 0] dX9_waitsOf_3 mwX9_of lkX9_107 (by decide) rfl rc_X9 rfl (Nat.le_of_ble_eq_true rfl) (by omega) rfl rfl (c_X9_of (v1 := (h 124 (15 + 11 * t))) (by omega)  (congrArg (h 124) (show (Int.toNat ((15 + (11 * ((t : Nat) : Int))) + 0)) = (15 + 11 * t) by omega)) (show 0 ≤ ((t : Nat) : Int) ∧ ((t : Nat) : Int) ≤ 11 ∧ 0 ≤ 0 ∧ 0 ≤ 10 by omega) ?_)
  show Aj γ mX9_waitsOf d 0 0 Post 6 [(0, vA 123), (1, vI ((t : Nat) : Int))] [vI (h 124 (15 + 11 * t))] (mk h τ)
  refine a_istore_n (lv' := [(2, vI (h 124 (15 + 11 * t))), (0, vA 123), (1, vI ((t : Nat) : Int))]) dX9_waitsOf_6 rfl (by decide) rfl ?_
  refine a_aload_n (j := 1) dX9_waitsOf_7 rfl rfl (Nat.le_of_ble_eq_true rfl) ?_
  refine a_iconst dX9_waitsOf_8 ⟨by decide, by decide⟩ ?_
  refine b_callV (d' := d - 1) (mc' := 0) (ms' := 0) (mc1 := 0) (ms1 := 0) (st := []) (b := 123) [vI 0] dX9_waitsOf_9 mwX9_counts lkX9_116 (by decide) rfl rc_X9 rfl (Nat.le_of_ble_eq_true rfl) (by omega) rfl rfl (c_X9_counts (v := h 124 6) (by omega) rfl (by omega) hx.2.1 ?_)
  show Aj γ mX9_waitsOf d 0 0 Post 12 [(2, vI (h 124 (15 + 11 * t))), (0, vA 123), (1, vI ((t : Nat) : Int))] [vI (cnN (h 124) 0)] (mk h τ)
  refine a_istore_n (lv' := [(3, vI (cnN (h 124) 0)), (2, vI (h 124 (15 + 11 * t))), (0, vA 123), (1, vI ((t : Nat) : Int))]) dX9_waitsOf_12 rfl (by decide) rfl ?_
  refine a_aload_n (j := 2) dX9_waitsOf_13 rfl rfl (Nat.le_of_ble_eq_true rfl) ?_
  refine b_getp (a := 123) (p := 144) dX9_waitsOf_14 fwX9_73 (by decide) rfl (by decide) rfl rfl ?_
  refine a_iconst dX9_waitsOf_17 ⟨by decide, by decide⟩ ?_
  refine a_iload_n (j := 1) dX9_waitsOf_18 rfl rfl ?_
  refine b_iastore (a := 144) 0 dX9_waitsOf_19 (by decide) rfl rfl (by decide) rfl ?_
  refine a_aload_n (j := 2) dX9_waitsOf_20 rfl rfl (Nat.le_of_ble_eq_true rfl) ?_
  refine b_getp (a := 123) (p := 144) dX9_waitsOf_21 fwX9_73 (by decide) rfl (by decide) rfl rfl ?_
  refine a_iconst dX9_waitsOf_24 ⟨by decide, by decide⟩ ?_
  refine a_iload_n (j := 3) dX9_waitsOf_25 rfl rfl ?_
  refine b_iastore (a := 144) 1 dX9_waitsOf_26 (by decide) rfl rfl (by decide) rfl ?_
  refine a_aload_n (j := 2) dX9_waitsOf_27 rfl rfl (Nat.le_of_ble_eq_true rfl) ?_
  refine b_getp (a := 123) (p := 144) dX9_waitsOf_28 fwX9_73 (by decide) rfl (by decide) rfl rfl ?_
  refine a_iconst dX9_waitsOf_31 ⟨by decide, by decide⟩ ?_
  refine a_aload_n (j := 2) dX9_waitsOf_32 rfl rfl (Nat.le_of_ble_eq_true rfl) ?_
  refine b_getp (a := 123) (p := 124) dX9_waitsOf_33 fwX9_9 (by decide) rfl (by decide) rfl rfl ?_
  refine a_iconst dX9_waitsOf_36 ⟨by decide, by decide⟩ ?_
  refine b_iaload (a := 124) (z := h 124 1) 1 dX9_waitsOf_37 (by decide) rfl rfl (by decide) rfl ((up2_ne (by omega)).trans ((up2_ne (by omega)).trans rfl)) (fun r37_1 => ?_)
  refine b_iastore (a := 144) 2 dX9_waitsOf_38 (by decide) rfl rfl (by decide) rfl ?_
  refine a_iload_n (j := 0) dX9_waitsOf_39 rfl rfl ?_
  refine a_if_ge (tgt := 66) dX9_waitsOf_40 (by decide) (fun c40_2 => ?_) (fun c40_2 => ?_)
  · refine a_aload_n (j := 2) dX9_waitsOf_66 rfl rfl (Nat.le_of_ble_eq_true rfl) ?_
    refine a_iload_n (j := 0) dX9_waitsOf_67 rfl rfl ?_
    obtain ⟨ct, hct⟩ : ∃ ct : Nat, (cnN (h 124) 0) = (ct : Int) := ⟨Int.toNat (cnN (h 124) 0), by omega⟩
    have hx3 := hx.2.2 ct (by omega)
    have hx2 := hx.2.1 ct (by omega)
    have hcl : h 124 (173 + 2 * ct) % 1000 = ((lnN (h 124) ct : Nat) : Int) := by unfold lnN; omega
    rw [hct]
    refine b_callV (d' := d - 1) (mc' := 0) (ms' := 0) (mc1 := 0) (ms1 := 0) (st := []) (b := 123) [vI ((ct : Nat) : Int)] dX9_waitsOf_68 mwX9_worksOut lkX9_120 (by decide) rfl rc_X9 rfl (Nat.le_of_ble_eq_true rfl) (by omega) rfl rfl (c_X9_worksOut (t := ct) (n := lnN (h 124) ct) (v := h 124 (173 + 2 * ct)) (fa := (fc3 (h 124 (15 + 11 * t)) t (h 124 1))) (cd := cdN (h 124) ct) (by omega) (by omega) ((up2_ne (by omega)).trans ((up2_ne (by omega)).trans ((up2_ne (by omega)).trans rfl))) hx2 hcl (by omega) hx3.2.1 (fun k _ => congrFun ((up2_row (by omega)).trans ((up2_row (by omega)).trans ((up2_row (by omega)).trans rfl))) _) ?_ (fun g => ?_))
    · intro k hk
      rcases (show k = 0 ∨ k = 1 ∨ k = 2 by omega) with rfl | rfl | rfl
      · exact ((up2_ne (by omega)).trans ((up2_ne (by omega)).trans up2_at))
      · exact ((up2_ne (by omega)).trans up2_at)
      · exact up2_at
    · show Aj γ mX9_waitsOf d 0 0 Post 71 [(3, vI ((ct : Nat) : Int)), (2, vI (h 124 (15 + 11 * t))), (0, vA 123), (1, vI ((t : Nat) : Int))] [vI (woN (h 124) ct (fc3 (h 124 (15 + 11 * t)) t (h 124 1)))] (mk (upR (up2 (up2 (up2 h 144 0 (h 124 (15 + 11 * t))) 144 1 ((t : Nat) : Int)) 144 2 (h 124 1)) 143 g) τ)
      refine a_iconst dX9_waitsOf_71 ⟨by decide, by decide⟩ ?_
      refine a_bipush dX9_waitsOf_72 ⟨by decide, by decide, by decide⟩ ?_
      refine a_callS (d' := d - 1) (mc' := 0) (ms' := 0) (mc1 := 0) (ms1 := 0) (st := []) [vI (woN (h 124) ct (fc3 (h 124 (15 + 11 * t)) t (h 124 1))), vI 0, vI 30] dX9_waitsOf_74 mwX9_within lkX9_123 rfl (Nat.le_of_ble_eq_true rfl) (by omega) rfl rfl (c_X9_within  (by omega)    ?_)
      show Aj γ mX9_waitsOf d 0 0 Post 77 [(3, vI ((ct : Nat) : Int)), (2, vI (h 124 (15 + 11 * t))), (0, vA 123), (1, vI ((t : Nat) : Int))] [vI (hw (woN (h 124) ct (fc3 (h 124 (15 + 11 * t)) t (h 124 1))) 0 30)] (mk (upR (up2 (up2 (up2 h 144 0 (h 124 (15 + 11 * t))) 144 1 ((t : Nat) : Int)) 144 2 (h 124 1)) 143 g) τ)
      exact a_iret dX9_waitsOf_77 rfl (by have e : wtN (h 124) t = (hw (woN (h 124) ct (fc3 (h 124 (15 + 11 * t)) t (h 124 1))) 0 30) := (by unfold wtN; rw [if_neg (by omega), hct] <;> rfl); rw [e] at kQ; exact kQ _ (Fr_R (by decide) (Fr_u (by decide) (Fr_u (by decide) (Fr_u (by decide) Fr_r)))))
  · refine a_iload_n (j := 1) dX9_waitsOf_43 rfl rfl ?_
    refine a_iconst dX9_waitsOf_44 ⟨by decide, by decide⟩ ?_
    refine a_icmp_ne (tgt := 52) dX9_waitsOf_45 (by decide) (fun c45_3 => ?_) (fun c45_3 => ?_)
    · refine a_iload_n (j := 1) dX9_waitsOf_52 rfl rfl ?_
      refine a_iconst dX9_waitsOf_53 ⟨by decide, by decide⟩ ?_
      refine a_icmp_lt (tgt := 62) dX9_waitsOf_54 (by decide) (fun c54_4 => ?_) (fun c54_4 => ?_)
      · refine a_iconst dX9_waitsOf_62 ⟨by decide, by decide⟩ ?_
        refine a_goto (tgt := 77) dX9_waitsOf_63 (by decide) ?_
        exact a_iret dX9_waitsOf_77 rfl (by have e : wtN (h 124) t = 0 := (by unfold wtN; rw [if_pos (by omega)] <;> first | rfl | (unfold uwF; (repeat' split) <;> omega)); rw [e] at kQ; exact kQ _ (Fr_u (by decide) (Fr_u (by decide) (Fr_u (by decide) Fr_r))))
      · refine a_bipush dX9_waitsOf_57 ⟨by decide, by decide, by decide⟩ ?_
        refine a_goto (tgt := 77) dX9_waitsOf_59 (by decide) ?_
        exact a_iret dX9_waitsOf_77 rfl (by have e : wtN (h 124) t = 10 := (by unfold wtN; rw [if_pos (by omega)] <;> first | rfl | (unfold uwF; (repeat' split) <;> omega)); rw [e] at kQ; exact kQ _ (Fr_u (by decide) (Fr_u (by decide) (Fr_u (by decide) Fr_r))))
    · refine a_iconst dX9_waitsOf_48 ⟨by decide, by decide⟩ ?_
      refine a_goto (tgt := 77) dX9_waitsOf_49 (by decide) ?_
      exact a_iret dX9_waitsOf_77 rfl (by have e : wtN (h 124) t = 5 := (by unfold wtN; rw [if_pos (by omega)] <;> first | rfl | (unfold uwF; (repeat' split) <;> omega)); rw [e] at kQ; exact kQ _ (Fr_u (by decide) (Fr_u (by decide) (Fr_u (by decide) Fr_r))))
set_option maxHeartbeats 8000000 in
theorem c_X9_tideOf {γ : GT} {d : Nat} {t : Nat} {N : Nat → Int} {h : Nat → Nat → Int} {τ : List AC} {Post : Option AV → List AC → Prop} (hd : 2 ≤ d) (hs : t < 12) (hN : h 124 = N) (hx : txOK N) (kQ : ∀ h', Fr [143, 144] h h' → Post (some (vI (tdN N t))) (mk h' τ)) : Cj γ mX9_tideOf d 0 0 [vA 123, vI ((t : Nat) : Int)] (mk h τ) Post := by
  subst hN
  have hx1 := hx.1
  have hcn := cnN_rng hx 1
  refine c_of (by decide) (Nat.le_of_ble_eq_true rfl) ?_
  show Aj γ mX9_tideOf d 0 0 Post 0 [(0, vA 123), (1, vI ((t : Nat) : Int))] [] (mk h τ)
  refine a_aload_n (j := 0) dX9_tideOf_0 rfl rfl (Nat.le_of_ble_eq_true rfl) ?_
  refine a_iconst dX9_tideOf_1 ⟨by decide, by decide⟩ ?_
  refine b_callV (d' := d - 1) (mc' := 0) (ms' := 0) (mc1 := 0) (ms1 := 0) (st := []) (b := 123) [vI 1] dX9_tideOf_2 mwX9_counts lkX9_116 (by decide) rfl rc_X9 rfl (Nat.le_of_ble_eq_true rfl) (by omega) rfl rfl (c_X9_counts (v := h 124 6) (by omega) rfl (by omega) hx.2.1 ?_)
  show Aj γ mX9_tideOf d 0 0 Post 5 [(0, vA 123), (1, vI ((t : Nat) : Int))] [vI (cnN (h 124) 1)] (mk h τ)
  refine a_istore_n (lv' := [(2, vI (cnN (h 124) 1)), (0, vA 123), (1, vI ((t : Nat) : Int))]) dX9_tideOf_5 rfl (by decide) rfl ?_
  refine a_aload_n (j := 1) dX9_tideOf_6 rfl rfl (Nat.le_of_ble_eq_true rfl) ?_
  refine b_getp (a := 123) (p := 144) dX9_tideOf_7 fwX9_73 (by decide) rfl (by decide) rfl rfl ?_
  refine a_iconst dX9_tideOf_10 ⟨by decide, by decide⟩ ?_
  refine a_iload_n (j := 2) dX9_tideOf_11 rfl rfl ?_
  refine b_iastore (a := 144) 0 dX9_tideOf_12 (by decide) rfl rfl (by decide) rfl ?_
  refine a_aload_n (j := 1) dX9_tideOf_13 rfl rfl (Nat.le_of_ble_eq_true rfl) ?_
  refine b_getp (a := 123) (p := 144) dX9_tideOf_14 fwX9_73 (by decide) rfl (by decide) rfl rfl ?_
  refine a_iconst dX9_tideOf_17 ⟨by decide, by decide⟩ ?_
  refine a_aload_n (j := 1) dX9_tideOf_18 rfl rfl (Nat.le_of_ble_eq_true rfl) ?_
  refine b_getp (a := 123) (p := 124) dX9_tideOf_19 fwX9_9 (by decide) rfl (by decide) rfl rfl ?_
  refine a_iconst dX9_tideOf_22 ⟨by decide, by decide⟩ ?_
  refine b_iaload (a := 124) (z := h 124 1) 1 dX9_tideOf_23 (by decide) rfl rfl (by decide) rfl ((up2_ne (by omega)).trans rfl) (fun r23_1 => ?_)
  refine b_iastore (a := 144) 1 dX9_tideOf_24 (by decide) rfl rfl (by decide) rfl ?_
  refine a_iload_n (j := 0) dX9_tideOf_25 rfl rfl ?_
  refine a_if_ge (tgt := 33) dX9_tideOf_26 (by decide) (fun c26_2 => ?_) (fun c26_2 => ?_)
  · refine a_aload_n (j := 1) dX9_tideOf_33 rfl rfl (Nat.le_of_ble_eq_true rfl) ?_
    refine a_iload_n (j := 0) dX9_tideOf_34 rfl rfl ?_
    obtain ⟨ct, hct⟩ : ∃ ct : Nat, (cnN (h 124) 1) = (ct : Int) := ⟨Int.toNat (cnN (h 124) 1), by omega⟩
    have hx3 := hx.2.2 ct (by omega)
    have hx2 := hx.2.1 ct (by omega)
    have hcl : h 124 (173 + 2 * ct) % 1000 = ((lnN (h 124) ct : Nat) : Int) := by unfold lnN; omega
    have hwx : woN (h 124) ct (fc3 t (h 124 1) (h 144 2)) = woN (h 124) ct (fc3 t (h 124 1) 0) := by
      have e1 : cnN (h 124) 1 = cntG (fun t => h 124 (173 + 2 * t) / 1000) 1 (Int.toNat (h 124 6)) := rfl
      have q := cntG_key (fun t => h 124 (173 + 2 * t) / 1000) 1 (Int.toNat (h 124 6)) (by omega)
      rw [← e1, hct] at q
      exact wrF_ext (hx3.2.2 q) (fun k hk => by rcases (show k = 0 ∨ k = 1 by omega) with rfl | rfl <;> rfl)
    rw [hct]
    refine b_callV (d' := d - 1) (mc' := 0) (ms' := 0) (mc1 := 0) (ms1 := 0) (st := []) (b := 123) [vI ((ct : Nat) : Int)] dX9_tideOf_35 mwX9_worksOut lkX9_120 (by decide) rfl rc_X9 rfl (Nat.le_of_ble_eq_true rfl) (by omega) rfl rfl (c_X9_worksOut (t := ct) (n := lnN (h 124) ct) (v := h 124 (173 + 2 * ct)) (fa := (fc3 t (h 124 1) (h 144 2))) (cd := cdN (h 124) ct) (by omega) (by omega) ((up2_ne (by omega)).trans ((up2_ne (by omega)).trans rfl)) hx2 hcl (by omega) hx3.2.1 (fun k _ => congrFun ((up2_row (by omega)).trans ((up2_row (by omega)).trans rfl)) _) ?_ (fun g => ?_))
    · intro k hk
      rcases (show k = 0 ∨ k = 1 ∨ k = 2 by omega) with rfl | rfl | rfl
      · exact ((up2_ne (by omega)).trans up2_at)
      · exact up2_at
      · exact ((up2_ne (by omega)).trans ((up2_ne (by omega)).trans rfl))
    · show Aj γ mX9_tideOf d 0 0 Post 38 [(2, vI ((ct : Nat) : Int)), (0, vA 123), (1, vI ((t : Nat) : Int))] [vI (woN (h 124) ct (fc3 t (h 124 1) (h 144 2)))] (mk (upR (up2 (up2 h 144 0 ((t : Nat) : Int)) 144 1 (h 124 1)) 143 g) τ)
      refine a_iconst dX9_tideOf_38 ⟨by decide, by decide⟩ ?_
      refine a_bipush dX9_tideOf_39 ⟨by decide, by decide, by decide⟩ ?_
      refine a_callS (d' := d - 1) (mc' := 0) (ms' := 0) (mc1 := 0) (ms1 := 0) (st := []) [vI (woN (h 124) ct (fc3 t (h 124 1) (h 144 2))), vI 0, vI 120] dX9_tideOf_41 mwX9_within lkX9_123 rfl (Nat.le_of_ble_eq_true rfl) (by omega) rfl rfl (c_X9_within  (by omega)    ?_)
      show Aj γ mX9_tideOf d 0 0 Post 44 [(2, vI ((ct : Nat) : Int)), (0, vA 123), (1, vI ((t : Nat) : Int))] [vI (hw (woN (h 124) ct (fc3 t (h 124 1) (h 144 2))) 0 120)] (mk (upR (up2 (up2 h 144 0 ((t : Nat) : Int)) 144 1 (h 124 1)) 143 g) τ)
      exact a_iret dX9_tideOf_44 rfl (by have e : tdN (h 124) t = (hw (woN (h 124) ct (fc3 t (h 124 1) (h 144 2))) 0 120) := (by unfold tdN; rw [if_neg (by omega), hct, hwx] <;> rfl); rw [e] at kQ; exact kQ _ (Fr_R (by decide) (Fr_u (by decide) (Fr_u (by decide) Fr_r))))
  · refine a_iconst dX9_tideOf_29 ⟨by decide, by decide⟩ ?_
    refine a_goto (tgt := 44) dX9_tideOf_30 (by decide) ?_
    exact a_iret dX9_tideOf_44 rfl (by have e : tdN (h 124) t = 0 := (by unfold tdN; rw [if_pos (by omega)] <;> first | rfl | (unfold uwF; (repeat' split) <;> omega)); rw [e] at kQ; exact kQ _ (Fr_u (by decide) (Fr_u (by decide) Fr_r)))
