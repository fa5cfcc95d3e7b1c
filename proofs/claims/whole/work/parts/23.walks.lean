/-! WHAT A WORLD'S NUMBERS SAY, by the reference's row N -/
def cnN (N : Nat → Int) (key : Int) : Int := cntG (fun t => N (173 + 2 * t) / 1000) key (Int.toNat (N 6))
def woN (N : Nat → Int) (t : Nat) (fa : Nat → Int) : Int := wrF fa (fun k => N (201 + 96 * t + k)) (Int.toNat (N (173 + 2 * t) % 1000))
def fc3 (a b c : Int) : Nat → Int := fun k => if k = 0 then a else if k = 1 then b else c
/-- the texts of a row are as text() leaves them -/
def txOK (N : Nat → Int) : Prop := (0 ≤ N 6 ∧ N 6 ≤ 14) ∧ (∀ t : Nat, t < 14 → 0 ≤ N (173 + 2 * t) ∧ N (173 + 2 * t) ≤ 2999) ∧ ∀ t : Nat, (t : Int) < N 6 → N (173 + 2 * t) % 1000 ≤ 96 ∧ wfC (fun k => N (201 + 96 * t + k)) (Int.toNat (N (173 + 2 * t) % 1000))
def wkN (N : Nat → Int) (s : Nat) : Int := if cnN N 2 < 0 then N (9 + s) else hw (woN N (Int.toNat (cnN N 2)) (fc3 s (N (9 + s)) (N 1))) 0 99
def wtN (N : Nat → Int) (t : Nat) : Int := if cnN N 0 < 0 then uwF (N (15 + 11 * t)) else hw (woN N (Int.toNat (cnN N 0)) (fc3 (N (15 + 11 * t)) t (N 1))) 0 30
theorem cnN_rng {N : Nat → Int} (h : txOK N) (key : Int) : -1 ≤ cnN N key ∧ cnN N key < N 6 := by
  have h1 := cntG_rng (fun t => N (173 + 2 * t) / 1000) key (Int.toNat (N 6))
  have h2 := h.1
  unfold cnN
  omega
theorem c_X9_walkOf {γ : GT} {d : Nat} {s : Nat} {N : Nat → Int} {h : Nat → Nat → Int} {τ : List AC} {Post : Option AV → List AC → Prop} (hd : 2 ≤ d) (hs : s ≤ 5) (hN : h 124 = N) (hx : txOK N) (kQ : ∀ a b c (g : Nat → Int), Post (some (vI (wkN N s))) (mk (upR (up2 (up2 (up2 h 144 0 a) 144 1 b) 144 2 c) 143 g) τ)) : Cj γ mX9_walkOf d 0 0 [vA 123, vI ((s : Nat) : Int)] (mk h τ) Post := by
  have hx1 := hx.1
  have hcn := cnN_rng hx 2
  refine c_of (by decide) (Nat.le_of_ble_eq_true rfl) ?_
  show Aj γ mX9_walkOf d 0 0 Post 0 [(0, vA 123), (1, vI ((s : Nat) : Int))] [] (mk h τ)
  refine a_aload_n (j := 0) dX9_walkOf_0 rfl rfl (Nat.le_of_ble_eq_true rfl) ?_
  refine a_iconst dX9_walkOf_1 ⟨by decide, by decide⟩ ?_
  refine b_callV (d' := d - 1) (mc' := 0) (ms' := 0) (mc1 := 0) (ms1 := 0) (st := []) (b := 123) [vI 2] dX9_walkOf_2 mwX9_counts lkX9_116 (by decide) rfl rc_X9 rfl (Nat.le_of_ble_eq_true rfl) (by omega) rfl rfl (c_X9_counts (v := N 6) (by omega) (by rw [hN]) (by omega) (by rw [hN]; exact hx.2.1) (by rw [hN]; exact ?_))
  show Aj γ mX9_walkOf d 0 0 Post 5 [(0, vA 123), (1, vI ((s : Nat) : Int))] [vI (cnN N 2)] (mk h τ)
  refine a_istore_n (lv' := [(2, vI (cnN N 2)), (0, vA 123), (1, vI ((s : Nat) : Int))]) dX9_walkOf_5 rfl (by decide) rfl ?_
  refine a_aload_n (j := 1) dX9_walkOf_6 rfl rfl (Nat.le_of_ble_eq_true rfl) ?_
  refine b_getp (a := 123) (p := 144) dX9_walkOf_7 fwX9_73 (by decide) rfl (by decide) rfl rfl ?_
  refine a_iconst dX9_walkOf_10 ⟨by decide, by decide⟩ ?_
  refine a_iload_n (j := 2) dX9_walkOf_11 rfl rfl ?_
  refine b_iastore (a := 144) 0 dX9_walkOf_12 (by decide) rfl rfl (by decide) rfl ?_
  refine a_aload_n (j := 1) dX9_walkOf_13 rfl rfl (Nat.le_of_ble_eq_true rfl) ?_
  refine b_getp (a := 123) (p := 144) dX9_walkOf_14 fwX9_73 (by decide) rfl (by decide) rfl rfl ?_
  refine a_iconst dX9_walkOf_17 ⟨by decide, by decide⟩ ?_
  refine a_aload_n (j := 1) dX9_walkOf_18 rfl rfl (Nat.le_of_ble_eq_true rfl) ?_
  refine b_getp (a := 123) (p := 124) dX9_walkOf_19 fwX9_9 (by decide) rfl (by decide) rfl rfl ?_
  refine a_bipush dX9_walkOf_22 ⟨by decide, by decide, by decide⟩ ?_
  refine a_iload_n (j := 2) dX9_walkOf_24 rfl rfl ?_
  refine a_iadd (z := (9 + ((s : Nat) : Int))) dX9_walkOf_25 (w_ok (by omega) (by omega)) ?_
  refine b_iaload (a := 124) (z := N (9 + s)) (9 + s) dX9_walkOf_26 (by decide) rfl (by omega) (by omega) (sp_nil rfl _) (by rw [up2_row (by omega),hN]) (fun r26_1 => ?_)
  refine b_iastore (a := 144) 1 dX9_walkOf_27 (by decide) rfl rfl (by decide) rfl ?_
  refine a_aload_n (j := 1) dX9_walkOf_28 rfl rfl (Nat.le_of_ble_eq_true rfl) ?_
  refine b_getp (a := 123) (p := 144) dX9_walkOf_29 fwX9_73 (by decide) rfl (by decide) rfl rfl ?_
  refine a_iconst dX9_walkOf_32 ⟨by decide, by decide⟩ ?_
  refine a_aload_n (j := 1) dX9_walkOf_33 rfl rfl (Nat.le_of_ble_eq_true rfl) ?_
  refine b_getp (a := 123) (p := 124) dX9_walkOf_34 fwX9_9 (by decide) rfl (by decide) rfl rfl ?_
  refine a_iconst dX9_walkOf_37 ⟨by decide, by decide⟩ ?_
  refine b_iaload (a := 124) (z := N 1) 1 dX9_walkOf_38 (by decide) rfl rfl (by decide) rfl (by rw [up2_row (by omega),up2_row (by omega),hN]) (fun r38_2 => ?_)
  refine b_iastore (a := 144) 2 dX9_walkOf_39 (by decide) rfl rfl (by decide) rfl ?_
  refine a_iload_n (j := 0) dX9_walkOf_40 rfl rfl ?_
  refine a_if_ge (tgt := 56) dX9_walkOf_41 (by decide) (fun c41_3 => ?_) (fun c41_3 => ?_)
  · refine a_aload_n (j := 1) dX9_walkOf_56 rfl rfl (Nat.le_of_ble_eq_true rfl) ?_
    refine a_iload_n (j := 0) dX9_walkOf_57 rfl rfl ?_
    obtain ⟨ct, hct⟩ : ∃ ct : Nat, cnN N 2 = (ct : Int) := ⟨Int.toNat (cnN N 2), by omega⟩
    have hx3 := hx.2.2 ct (by omega)
    have hx2 := hx.2.1 ct (by omega)
    obtain ⟨cl, hcl⟩ : ∃ cl : Nat, N (173 + 2 * ct) % 1000 = (cl : Int) := ⟨Int.toNat (N (173 + 2 * ct) % 1000), by omega⟩
    rw [hcl, show Int.toNat (cl : Int) = cl by omega] at hx3
    rw [hct]
    refine b_callV (d' := d - 1) (mc' := 0) (ms' := 0) (mc1 := 0) (ms1 := 0) (st := []) (b := 123) [vI ((ct : Nat) : Int)] dX9_walkOf_58 mwX9_worksOut lkX9_120 (by decide) rfl rc_X9 rfl (Nat.le_of_ble_eq_true rfl) (by omega) rfl rfl (c_X9_worksOut (t := ct) (n := cl) (v := N (173 + 2 * ct)) (fa := (fc3 s (N (9 + s)) (N 1))) (cd := fun k => N (201 + 96 * ct + k)) (by omega) (by omega) (by rw [up2_row (by omega)]; rw [up2_row (by omega),up2_row (by omega),hN]) hx2 hcl (by omega) hx3.2 (fun k _ => by rw [up2_row (by omega),up2_row (by omega),up2_row (by omega),hN]) ?_ (fun g => ?_))
    · intro k hk
      rcases (show k = 0 ∨ k = 1 ∨ k = 2 by omega) with rfl | rfl | rfl
      · exact ((up2_ne (by omega)).trans ((up2_ne (by omega)).trans up2_at))
      · exact ((up2_ne (by omega)).trans up2_at)
      · exact up2_at
    · have hwo : wrF (fc3 s (N (9 + s)) (N 1)) (fun k => N (201 + 96 * ct + k)) cl = woN N ct (fc3 s (N (9 + s)) (N 1)) := by unfold woN; rw [hcl]; rfl
      rw [hwo]
      show Aj γ mX9_walkOf d 0 0 Post 61 [(2, vI ((ct : Nat) : Int)), (0, vA 123), (1, vI ((s : Nat) : Int))] [vI (woN N ct (fc3 s (N (9 + s)) (N 1)))] (mk (upR (up2 (up2 (up2 h 144 0 ((s : Nat) : Int)) 144 1 (N (9 + s))) 144 2 (N 1)) 143 g) τ)
      refine a_iconst dX9_walkOf_61 ⟨by decide, by decide⟩ ?_
      refine a_bipush dX9_walkOf_62 ⟨by decide, by decide, by decide⟩ ?_
      refine a_callS (d' := d - 1) (mc' := 0) (ms' := 0) (mc1 := 0) (ms1 := 0) (st := []) [vI (woN N ct (fc3 s (N (9 + s)) (N 1))), vI 0, vI 99] dX9_walkOf_64 mwX9_within lkX9_123 rfl (Nat.le_of_ble_eq_true rfl) (by omega) rfl rfl (c_X9_within  (by omega)    ?_)
      show Aj γ mX9_walkOf d 0 0 Post 67 [(2, vI ((ct : Nat) : Int)), (0, vA 123), (1, vI ((s : Nat) : Int))] [vI (hw (woN N ct (fc3 s (N (9 + s)) (N 1))) 0 99)] (mk (upR (up2 (up2 (up2 h 144 0 ((s : Nat) : Int)) 144 1 (N (9 + s))) 144 2 (N 1)) 143 g) τ)
      exact a_iret dX9_walkOf_67 rfl (by have e : wkN N s = (hw (woN N ct (fc3 s (N (9 + s)) (N 1))) 0 99) := (by unfold wkN; rw [if_neg (by omega), hct]; rfl); rw [e] at kQ; exact kQ _ _ _ g)
  · refine a_aload_n (j := 1) dX9_walkOf_44 rfl rfl (Nat.le_of_ble_eq_true rfl) ?_
    refine b_getp (a := 123) (p := 124) dX9_walkOf_45 fwX9_9 (by decide) rfl (by decide) rfl rfl ?_
    refine a_bipush dX9_walkOf_48 ⟨by decide, by decide, by decide⟩ ?_
    refine a_iload_n (j := 2) dX9_walkOf_50 rfl rfl ?_
    refine a_iadd (z := (9 + ((s : Nat) : Int))) dX9_walkOf_51 (w_ok (by omega) (by omega)) ?_
    refine b_iaload (a := 124) (z := N (9 + s)) (9 + s) dX9_walkOf_52 (by decide) rfl (by omega) (by omega) (sp_nil rfl _) (by rw [up2_row (by omega),up2_row (by omega),up2_row (by omega),hN]) (fun r52_4 => ?_)
    refine a_goto (tgt := 67) dX9_walkOf_53 (by decide) ?_
    exact a_iret dX9_walkOf_67 rfl (by have e : wkN N s = N (9 + s) := (by unfold wkN; rw [if_pos (by omega)]); rw [e] at kQ; have hk := kQ _ _ _ (h 143); rw [upR_id (by rw [up2_row (by omega), up2_row (by omega), up2_row (by omega)])] at hk; exact hk)
