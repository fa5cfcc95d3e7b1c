set_option maxHeartbeats 8000000 in
theorem c_X8_areTwoTrains {γ : GT} {d : Nat} {a b : Int} {h : Nat → Nat → Int} {τ : List AC} {Post : Option AV → List AC → Prop} (hd : 2 ≤ d) {v1 : Int} (e1 : h 1 3 = v1) (hr : 0 ≤ v1 ∧ v1 ≤ 12) (kT : (0 ≤ a ∧ a < v1) ∧ (0 ≤ b ∧ b < v1) ∧ ¬ a = b → Post (some (vI 1)) (mk h τ)) (kF : ¬ ((0 ≤ a ∧ a < v1) ∧ (0 ≤ b ∧ b < v1) ∧ ¬ a = b) → Post (some (vI 0)) (mk h τ)) : Cj γ mX8_areTwoTrains d 0 0 [vA 0, vI a, vI b] (mk h τ) Post := by
  refine c_of (by decide) (Nat.le_of_ble_eq_true rfl) ?_
  show Aj γ mX8_areTwoTrains d 0 0 Post 0 [(0, vA 0), (1, vI a), (2, vI b)] [] (mk h τ)
  refine a_aload_n (j := 0) dX8_areTwoTrains_0 rfl rfl (Nat.le_of_ble_eq_true rfl) ?_
  refine b_getp (a := 0) (p := 1) dX8_areTwoTrains_1 fwX8_14 (by decide) rfl (by decide) rfl rfl ?_
  refine a_iload_n (j := 1) dX8_areTwoTrains_4 rfl rfl ?_
  refine b_callV (d' := d - 1) (mc' := 0) (ms' := 0) (mc1 := 0) (ms1 := 0) (st := []) (b := 1) [vI a] dX8_areTwoTrains_5 mwX7_isTrain lkX8_121 (by decide) rfl rc_X7 rfl (Nat.le_of_ble_eq_true rfl) (by omega) rfl rfl (c_X7_isTrain (v1 := v1) (by omega) (Or.inl rfl) e1 (show 0 ≤ v1 ∧ v1 ≤ 12 by omega) (fun t5_1 => ?_) (fun t5_1 => ?_))
  · have t5_1 : 0 ≤ a ∧ a < v1 := t5_1
    show Aj γ mX8_areTwoTrains d 0 0 Post 8 [(0, vA 0), (1, vI a), (2, vI b)] [vI 1] (mk h τ)
    refine a_if_eq (tgt := 31) dX8_areTwoTrains_8 (by decide) (fun c => absurd c (by decide)) (fun _ => ?_)
    refine a_aload_n (j := 0) dX8_areTwoTrains_11 rfl rfl (Nat.le_of_ble_eq_true rfl) ?_
    refine b_getp (a := 0) (p := 1) dX8_areTwoTrains_12 fwX8_14 (by decide) rfl (by decide) rfl rfl ?_
    refine a_iload_n (j := 2) dX8_areTwoTrains_15 rfl rfl ?_
    refine b_callV (d' := d - 1) (mc' := 0) (ms' := 0) (mc1 := 0) (ms1 := 0) (st := []) (b := 1) [vI b] dX8_areTwoTrains_16 mwX7_isTrain lkX8_121 (by decide) rfl rc_X7 rfl (Nat.le_of_ble_eq_true rfl) (by omega) rfl rfl (c_X7_isTrain (v1 := v1) (by omega) (Or.inl rfl) e1 (show 0 ≤ v1 ∧ v1 ≤ 12 by omega) (fun t16_2 => ?_) (fun t16_2 => ?_))
    · have t16_2 : 0 ≤ b ∧ b < v1 := t16_2
      show Aj γ mX8_areTwoTrains d 0 0 Post 19 [(0, vA 0), (1, vI a), (2, vI b)] [vI 1] (mk h τ)
      refine a_if_eq (tgt := 31) dX8_areTwoTrains_19 (by decide) (fun c => absurd c (by decide)) (fun _ => ?_)
      refine a_iload_n (j := 1) dX8_areTwoTrains_22 rfl rfl ?_
      refine a_iload_n (j := 2) dX8_areTwoTrains_23 rfl rfl ?_
      refine a_icmp_eq (tgt := 31) dX8_areTwoTrains_24 (by decide) (fun c24_3 => ?_) (fun c24_3 => ?_)
      · refine a_iconst dX8_areTwoTrains_31 ⟨by decide, by decide⟩ ?_
        exact a_zret dX8_areTwoTrains_32 rfl (by first | exact Or.inl rfl | exact Or.inr rfl | omega) (kF (by omega))
      · refine a_iconst dX8_areTwoTrains_27 ⟨by decide, by decide⟩ ?_
        refine a_goto (tgt := 32) dX8_areTwoTrains_28 (by decide) ?_
        exact a_zret dX8_areTwoTrains_32 rfl (by first | exact Or.inl rfl | exact Or.inr rfl | omega) (kT (by omega))
    · have t16_2 : ¬ (0 ≤ b ∧ b < v1) := t16_2
      show Aj γ mX8_areTwoTrains d 0 0 Post 19 [(0, vA 0), (1, vI a), (2, vI b)] [vI 0] (mk h τ)
      refine a_if_eq (tgt := 31) dX8_areTwoTrains_19 (by decide) (fun _ => ?_) (fun c => absurd c (by decide))
      refine a_iconst dX8_areTwoTrains_31 ⟨by decide, by decide⟩ ?_
      exact a_zret dX8_areTwoTrains_32 rfl (by first | exact Or.inl rfl | exact Or.inr rfl | omega) (kF (by omega))
  · have t5_1 : ¬ (0 ≤ a ∧ a < v1) := t5_1
    show Aj γ mX8_areTwoTrains d 0 0 Post 8 [(0, vA 0), (1, vI a), (2, vI b)] [vI 0] (mk h τ)
    refine a_if_eq (tgt := 31) dX8_areTwoTrains_8 (by decide) (fun _ => ?_) (fun c => absurd c (by decide))
    refine a_iconst dX8_areTwoTrains_31 ⟨by decide, by decide⟩ ?_
    exact a_zret dX8_areTwoTrains_32 rfl (by first | exact Or.inl rfl | exact Or.inr rfl | omega) (kF (by omega))
set_option maxHeartbeats 8000000 in
theorem c_X8_isPoint {γ : GT} {d : Nat} {s m : Int} {h : Nat → Nat → Int} {τ : List AC} {Post : Option AV → List AC → Prop} (hd : 2 ≤ d) {v1 : Int} (e1 : h 1 1 = v1) (hr : 0 ≤ v1 ∧ v1 ≤ 6) (kT : (0 ≤ s ∧ s < v1) ∧ (0 ≤ m ∧ m ≤ 2879) → Post (some (vI 1)) (mk h τ)) (kF : ¬ ((0 ≤ s ∧ s < v1) ∧ (0 ≤ m ∧ m ≤ 2879)) → Post (some (vI 0)) (mk h τ)) : Cj γ mX8_isPoint d 0 0 [vA 0, vI s, vI m] (mk h τ) Post := by
  refine c_of (by decide) (Nat.le_of_ble_eq_true rfl) ?_
  show Aj γ mX8_isPoint d 0 0 Post 0 [(0, vA 0), (1, vI s), (2, vI m)] [] (mk h τ)
  refine a_aload_n (j := 0) dX8_isPoint_0 rfl rfl (Nat.le_of_ble_eq_true rfl) ?_
  refine b_getp (a := 0) (p := 1) dX8_isPoint_1 fwX8_14 (by decide) rfl (by decide) rfl rfl ?_
  refine a_iload_n (j := 1) dX8_isPoint_4 rfl rfl ?_
  refine b_callV (d' := d - 1) (mc' := 0) (ms' := 0) (mc1 := 0) (ms1 := 0) (st := []) (b := 1) [vI s] dX8_isPoint_5 mwX7_isStop lkX8_84 (by decide) rfl rc_X7 rfl (Nat.le_of_ble_eq_true rfl) (by omega) rfl rfl (c_X7_isStop (v1 := v1) (by omega) (Or.inl rfl) e1 (show 0 ≤ v1 ∧ v1 ≤ 6 by omega) (fun t5_1 => ?_) (fun t5_1 => ?_))
  · have t5_1 : 0 ≤ s ∧ s < v1 := t5_1
    show Aj γ mX8_isPoint d 0 0 Post 8 [(0, vA 0), (1, vI s), (2, vI m)] [vI 1] (mk h τ)
    refine a_if_eq (tgt := 26) dX8_isPoint_8 (by decide) (fun c => absurd c (by decide)) (fun _ => ?_)
    refine a_iload_n (j := 2) dX8_isPoint_11 rfl rfl ?_
    refine a_iconst dX8_isPoint_12 ⟨by decide, by decide⟩ ?_
    refine a_sipush dX8_isPoint_13 ⟨by decide, by decide, by decide⟩ ?_
    refine a_callS (d' := d - 1) (mc' := 0) (ms' := 0) (mc1 := 0) (ms1 := 0) (st := []) [vI m, vI 0, vI 2879] dX8_isPoint_16 mwX8_within lkX8_68 rfl (Nat.le_of_ble_eq_true rfl) (by omega) rfl rfl (c_X8_within  (by omega)    (fun t16_2 => ?_) (fun t16_2 => ?_))
    · have t16_2 : 0 ≤ m ∧ m ≤ 2879 := t16_2
      show Aj γ mX8_isPoint d 0 0 Post 19 [(0, vA 0), (1, vI s), (2, vI m)] [vI 1] (mk h τ)
      refine a_if_eq (tgt := 26) dX8_isPoint_19 (by decide) (fun c => absurd c (by decide)) (fun _ => ?_)
      refine a_iconst dX8_isPoint_22 ⟨by decide, by decide⟩ ?_
      refine a_goto (tgt := 27) dX8_isPoint_23 (by decide) ?_
      exact a_zret dX8_isPoint_27 rfl (by first | exact Or.inl rfl | exact Or.inr rfl | omega) (kT (by omega))
    · have t16_2 : ¬ (0 ≤ m ∧ m ≤ 2879) := t16_2
      show Aj γ mX8_isPoint d 0 0 Post 19 [(0, vA 0), (1, vI s), (2, vI m)] [vI 0] (mk h τ)
      refine a_if_eq (tgt := 26) dX8_isPoint_19 (by decide) (fun _ => ?_) (fun c => absurd c (by decide))
      refine a_iconst dX8_isPoint_26 ⟨by decide, by decide⟩ ?_
      exact a_zret dX8_isPoint_27 rfl (by first | exact Or.inl rfl | exact Or.inr rfl | omega) (kF (by omega))
  · have t5_1 : ¬ (0 ≤ s ∧ s < v1) := t5_1
    show Aj γ mX8_isPoint d 0 0 Post 8 [(0, vA 0), (1, vI s), (2, vI m)] [vI 0] (mk h τ)
    refine a_if_eq (tgt := 26) dX8_isPoint_8 (by decide) (fun _ => ?_) (fun c => absurd c (by decide))
    refine a_iconst dX8_isPoint_26 ⟨by decide, by decide⟩ ?_
    exact a_zret dX8_isPoint_27 rfl (by first | exact Or.inl rfl | exact Or.inr rfl | omega) (kF (by omega))
set_option maxHeartbeats 8000000 in
theorem c_X9_isPlace {γ : GT} {d : Nat} {s m : Int} {h : Nat → Nat → Int} {τ : List AC} {Post : Option AV → List AC → Prop} (hd : 2 ≤ d) {v1 : Int} (e1 : h 124 4 = v1) (hr : 0 ≤ v1 ∧ v1 ≤ 6) (kT : (0 ≤ s ∧ s < v1) ∧ (0 ≤ m ∧ m ≤ 2879) → Post (some (vI 1)) (mk h τ)) (kF : ¬ ((0 ≤ s ∧ s < v1) ∧ (0 ≤ m ∧ m ≤ 2879)) → Post (some (vI 0)) (mk h τ)) : Cj γ mX9_isPlace d 0 0 [vA 123, vI s, vI m] (mk h τ) Post := by
  refine c_of (by decide) (Nat.le_of_ble_eq_true rfl) ?_
  show Aj γ mX9_isPlace d 0 0 Post 0 [(0, vA 123), (1, vI s), (2, vI m)] [] (mk h τ)
  refine a_aload_n (j := 0) dX9_isPlace_0 rfl rfl (Nat.le_of_ble_eq_true rfl) ?_
  refine a_iload_n (j := 1) dX9_isPlace_1 rfl rfl ?_
  refine b_callV (d' := d - 1) (mc' := 0) (ms' := 0) (mc1 := 0) (ms1 := 0) (st := []) (b := 123) [vI s] dX9_isPlace_2 mwX9_isStop lkX9_148 (by decide) rfl rc_X9 rfl (Nat.le_of_ble_eq_true rfl) (by omega) rfl rfl (c_X9_isStop (v1 := v1) (by omega)  e1 (show 0 ≤ v1 ∧ v1 ≤ 6 by omega) (fun t2_1 => ?_) (fun t2_1 => ?_))
  · have t2_1 : 0 ≤ s ∧ s < v1 := t2_1
    show Aj γ mX9_isPlace d 0 0 Post 5 [(0, vA 123), (1, vI s), (2, vI m)] [vI 1] (mk h τ)
    refine a_if_eq (tgt := 23) dX9_isPlace_5 (by decide) (fun c => absurd c (by decide)) (fun _ => ?_)
    refine a_iload_n (j := 2) dX9_isPlace_8 rfl rfl ?_
    refine a_iconst dX9_isPlace_9 ⟨by decide, by decide⟩ ?_
    refine a_sipush dX9_isPlace_10 ⟨by decide, by decide, by decide⟩ ?_
    refine a_callS (d' := d - 1) (mc' := 0) (ms' := 0) (mc1 := 0) (ms1 := 0) (st := []) [vI m, vI 0, vI 2879] dX9_isPlace_13 mwX9_in lkX9_103 rfl (Nat.le_of_ble_eq_true rfl) (by omega) rfl rfl (c_X9_in  (by omega)    (fun t13_2 => ?_) (fun t13_2 => ?_))
    · have t13_2 : 0 ≤ m ∧ m ≤ 2879 := t13_2
      show Aj γ mX9_isPlace d 0 0 Post 16 [(0, vA 123), (1, vI s), (2, vI m)] [vI 1] (mk h τ)
      refine a_if_eq (tgt := 23) dX9_isPlace_16 (by decide) (fun c => absurd c (by decide)) (fun _ => ?_)
      refine a_iconst dX9_isPlace_19 ⟨by decide, by decide⟩ ?_
      refine a_goto (tgt := 24) dX9_isPlace_20 (by decide) ?_
      exact a_zret dX9_isPlace_24 rfl (by first | exact Or.inl rfl | exact Or.inr rfl | omega) (kT (by omega))
    · have t13_2 : ¬ (0 ≤ m ∧ m ≤ 2879) := t13_2
      show Aj γ mX9_isPlace d 0 0 Post 16 [(0, vA 123), (1, vI s), (2, vI m)] [vI 0] (mk h τ)
      refine a_if_eq (tgt := 23) dX9_isPlace_16 (by decide) (fun _ => ?_) (fun c => absurd c (by decide))
      refine a_iconst dX9_isPlace_23 ⟨by decide, by decide⟩ ?_
      exact a_zret dX9_isPlace_24 rfl (by first | exact Or.inl rfl | exact Or.inr rfl | omega) (kF (by omega))
  · have t2_1 : ¬ (0 ≤ s ∧ s < v1) := t2_1
    show Aj γ mX9_isPlace d 0 0 Post 5 [(0, vA 123), (1, vI s), (2, vI m)] [vI 0] (mk h τ)
    refine a_if_eq (tgt := 23) dX9_isPlace_5 (by decide) (fun _ => ?_) (fun c => absurd c (by decide))
    refine a_iconst dX9_isPlace_23 ⟨by decide, by decide⟩ ?_
    exact a_zret dX9_isPlace_24 rfl (by first | exact Or.inl rfl | exact Or.inr rfl | omega) (kF (by omega))
/-! WHAT THE CALLS THAT ASK ANSWER -/
def vWalk (N : Nat → Int) (s : Int) : Int := if 0 ≤ s ∧ s < N 4 then wkN N (Int.toNat s) else -1000000001
def vMakes (N : Nat → Int) (a b : Int) : Int := if (0 ≤ a ∧ a < N 5) ∧ (0 ≤ b ∧ b < N 5) ∧ ¬ a = b then (if N (16 + 11 * Int.toNat b) = N (17 + 11 * Int.toNat a) then mkT (tt N) (Int.toNat a) (Int.toNat b) 0 else -1000000002) else -1000000001
def vNever (N : Nat → Int) (q : Int) : Int := if 0 ≤ q ∧ q ≤ 1 then (if q = 0 then (nvA (tt N) (Int.toNat (N 5)) (Int.toNat (N 5))).1 else (nvA (tt N) (Int.toNat (N 5)) (Int.toNat (N 5))).2) else -1000000001
noncomputable def vMends (N : Nat → Int) (a b v : Int) : Int := if ((0 ≤ a ∧ a < N 5) ∧ (0 ≤ b ∧ b < N 5) ∧ ¬ a = b) ∧ (1 ≤ v ∧ v ≤ 10000) then (if N (16 + 11 * Int.toNat b) = N (17 + 11 * Int.toNat a) then fndV (mdP (tt N) (Int.toNat a) (Int.toNat b) v) 0 1000 else -1000000002) else -1000000001
noncomputable def vJudge (N : Nat → Int) : Int := fndV (bkP N) 1 (Int.toNat (N 7))
noncomputable def vPlan (N : Nat → Int) (q : Int) : Int := if 0 ≤ q ∧ q ≤ 1 then (if vJudge N = -1000000005 then (if N 7 = 0 then (if q = 0 then 1 else 0) else plV (tt N) (plK N) (Int.toNat (N 7)) q) else -1000000002) else -1000000001
def vMean (N : Nat → Int) (s m : Int) : Int := if (0 ≤ s ∧ s < N 4) ∧ (0 ≤ m ∧ m ≤ 2879) then WT 0 (tt N) s m else -1000000001
def vTaken (N : Nat → Int) (s m : Int) : Int := if (0 ≤ s ∧ s < N 4) ∧ (0 ≤ m ∧ m ≤ 2879) then hsF (TK (tt N) s m) else -1000000001
def vSure (N : Nat → Int) (s m : Int) : Int := if (0 ≤ s ∧ s < N 4) ∧ (0 ≤ m ∧ m ≤ 2879) then WT 1 (tt N) s m else -1000000001
def vCheap (N : Nat → Int) (s m : Int) : Int := if (0 ≤ s ∧ s < N 4) ∧ (0 ≤ m ∧ m ≤ 2879) then (if WT 2 (tt N) s m = 2147483647 then -1000000005 else WT 2 (tt N) s m) else -1000000001
def vWhy (N : Nat → Int) (k : Int) : Int := if 0 ≤ k ∧ k ≤ 2 then hsF (cnN N k) else -1000000001
theorem CC_b78 {h h' : Nat → Nat → Int} {N J : Nat → Int} (hF : Fr [78] h h') (hk : ∀ k, k ≠ 3 → h' 78 k = h 78 k) (hC : CC h N J) : CC h' N J := by
  have hs := hC.2.2.1
  refine CC_new (Fr_m (by decide) hF) hC (Or.inl ⟨Fr_v hF (by decide), fun T t => TT_fr (by decide) hF t⟩) ⟨⟨(hk 0 (by decide)).trans hs.1.1, (Fr_v hF (by decide)).trans hs.1.2.1, (Fr_v hF (by decide)).trans hs.1.2.2⟩, ?_⟩ (Or.inl ⟨hk 2 (by decide), hF 79 (by decide)⟩) (Or.inl ⟨Fr_v hF (by decide), hF 81 (by decide)⟩) (Or.inl ⟨Fr_v hF (by decide), hF 83 (by decide)⟩)
  rw [Fr_v hF (by decide), Fr_v hF (by decide)]; exact hs.2
theorem CC_w {h h' : Nat → Nat → Int} {N J : Nat → Int} (hF : Fr [63, 76, 77] h h') (hk : K18 h h') (hy : WYo h') (hC : CC h N J) : CC h' N J := by
  have hs := hC.2.2.1
  exact CC_new (Fr_m (by decide) hF) hC (Or.inl ⟨hk 0 (by decide) (by decide), fun T t => TT_w hF hk t⟩) ⟨⟨(Fr_v hF (by decide)).trans hs.1.1, (Fr_v hF (by decide)).trans hs.1.2.1, (Fr_v hF (by decide)).trans hs.1.2.2⟩, hy⟩ (Or.inl ⟨Fr_v hF (by decide), hF 79 (by decide)⟩) (Or.inl ⟨Fr_v hF (by decide), hF 81 (by decide)⟩) (Or.inl ⟨Fr_v hF (by decide), hF 83 (by decide)⟩)
theorem RC_fr {h h' : Nat → Nat → Int} {N : Nat → Int} (hF : Fr [131, 132] h h') (hC : RC h N) : RC h' N := by
  unfold RC KA KN CW dlB
  rw [hF 123 (by decide), hF 127 (by decide), hF 128 (by decide), hF 129 (by decide), hF 130 (by decide), hF 133 (by decide), hF 134 (by decide), hF 135 (by decide), hF 136 (by decide)]
  exact hC
set_option maxHeartbeats 8000000 in
theorem q_X8_walk {γ : GT} {d : Nat} {s : Int} {N J : Nat → Int} {h : Nat → Nat → Int} {τ : List AC} {Post : Option AV → List AC → Prop} (hd : 12 ≤ d) (hR : WR h τ 1 N) (hX : NX N) (hC : CC h N J) (kQ : ∀ h', Fr [63, 64, 65, 66, 67, 68, 69, 70, 71, 72, 73, 74, 75, 76, 77, 78, 79, 80, 81, 82, 83] h h' → CC h' N J → Post (some (vI (vWalk N s))) (mk h' τ)) : Cj γ mX8_walk d 0 0 [vA 0, vI s] (mk h τ) Post := by
  have hsc := hX.1.1
  have hs1 := hsc.1
  have hs2 := hsc.2.1
  have hs3 := hsc.2.2.1
  have hs4 := hsc.2.2.2.1
  have hs5 := hsc.2.2.2.2
  have hx7 := hX.2.1
  have hx8 := hX.2.2.2.1
  obtain ⟨T, hTe⟩ : ∃ T, tt N = T := ⟨_, rfl⟩
  have hT : tOK T := hTe ▸ tt_OK hX.1
  have hNT : NTr N T := hTe ▸ NT_tt hX.1
  have e02 : N 5 = T 0 2 := hNT.1.2.2.1
  have e03 : N 4 = T 0 3 := hNT.1.2.2.2
  by_cases hin : 0 ≤ s ∧ s < N 4
  · obtain ⟨sn, rfl⟩ : ∃ sn : Nat, s = (sn : Int) := ⟨Int.toNat s, by omega⟩
    refine c_of (by decide) (Nat.le_of_ble_eq_true rfl) ?_
    show Aj γ mX8_walk d 0 0 Post 0 [(0, vA 0), (1, vI ((sn : Nat) : Int))] [] (mk h τ)
    refine a_aload_n (j := 0) dX8_walk_0 rfl rfl (Nat.le_of_ble_eq_true rfl) ?_
    refine b_getp (a := 0) (p := 1) dX8_walk_1 fwX8_14 (by decide) rfl (by decide) rfl rfl ?_
    refine a_iload_n (j := 1) dX8_walk_4 rfl rfl ?_
    refine b_callV (d' := d - 1) (mc' := 0) (ms' := 0) (mc1 := 0) (ms1 := 0) (st := []) (b := 1) [vI ((sn : Nat) : Int)] dX8_walk_5 mwX7_isStop lkX8_84 (by decide) rfl rc_X7 rfl (Nat.le_of_ble_eq_true rfl) (by omega) rfl rfl (c_X7_isStop (v1 := (N 4)) (by omega) (Or.inl rfl) hR.1.1 (show 0 ≤ (N 4) ∧ (N 4) ≤ 6 by omega) (fun t5_1 => ?_) (fun t5_1 => ?_))
    · have t5_1 : 0 ≤ ((sn : Nat) : Int) ∧ ((sn : Nat) : Int) < (N 4) := t5_1
      show Aj γ mX8_walk d 0 0 Post 8 [(0, vA 0), (1, vI ((sn : Nat) : Int))] [vI 1] (mk h τ)
      refine a_if_ne (tgt := 14) dX8_walk_8 (by decide) (fun _ => ?_) (fun c => absurd c (by decide))
      refine a_aload_n (j := 0) dX8_walk_14 rfl rfl (Nat.le_of_ble_eq_true rfl) ?_
      refine b_getp (a := 0) (p := 63) dX8_walk_15 fwX8_24 (by decide) rfl (by decide) rfl rfl ?_
      refine a_aload_n (j := 0) dX8_walk_18 rfl rfl (Nat.le_of_ble_eq_true rfl) ?_
      refine b_getp (a := 0) (p := 1) dX8_walk_19 fwX8_14 (by decide) rfl (by decide) rfl rfl ?_
      refine b_callV (d' := d - 1) (mc' := 0) (ms' := 0) (mc1 := 0) (ms1 := 0) (st := []) (b := 63) [vA 1] dX8_walk_22 mwX5_refresh lkX8_88 (by decide) rfl rc_X5 rfl (Nat.le_of_ble_eq_true rfl) (by omega) rfl rfl (k_refresh (N := N) (J := J) (by omega) hR hX.1 hC (fun h7 hF7 c7 t7 => ?_))
      rw [hTe] at t7
      show Aj γ mX8_walk d 0 0 Post 25 [(0, vA 0), (1, vI ((sn : Nat) : Int))] [] (mk h7 τ)
      refine a_aload_n (j := 0) dX8_walk_25 rfl rfl (Nat.le_of_ble_eq_true rfl) ?_
      refine b_getp (a := 0) (p := 63) dX8_walk_26 fwX8_24 (by decide) rfl (by decide) rfl rfl ?_
      refine b_getp (a := 63) (p := 64) dX8_walk_29 fwX8_92 (by decide) rfl (by decide) rfl rfl ?_
      refine a_iload_n (j := 1) dX8_walk_32 rfl rfl ?_
      refine b_iaload (a := 64) (z := h7 64 sn) sn dX8_walk_33 (by decide) rfl rfl (by omega) (sp_nil rfl _) rfl (fun r33_2 => ?_)
      exact a_iret dX8_walk_34 rfl (post_v (kQ h7 hF7 c7) (by unfold vWalk; rw [if_pos hin, Int.toNat_natCast, ← (show tt N 1 sn = wkN N sn from if_pos hin.2), hTe]; exact (t7.2.1 sn (by omega)).symm))
    · have t5_1 : ¬ (0 ≤ ((sn : Nat) : Int) ∧ ((sn : Nat) : Int) < (N 4)) := t5_1
      show Aj γ mX8_walk d 0 0 Post 8 [(0, vA 0), (1, vI ((sn : Nat) : Int))] [vI 0] (mk h τ)
      refine a_if_ne (tgt := 14) dX8_walk_8 (by decide) (fun c => absurd c (by decide)) (fun _ => ?_)
      refine a_ldc (z := (-1000000001)) dX8_walk_11 kwX8_72 ⟨by decide, by decide, by decide⟩ ?_
      exact a_iret dX8_walk_13 rfl (absurd hin (by omega))
  · refine c_of (by decide) (Nat.le_of_ble_eq_true rfl) ?_
    show Aj γ mX8_walk d 0 0 Post 0 [(0, vA 0), (1, vI s)] [] (mk h τ)
    refine a_aload_n (j := 0) dX8_walk_0 rfl rfl (Nat.le_of_ble_eq_true rfl) ?_
    refine b_getp (a := 0) (p := 1) dX8_walk_1 fwX8_14 (by decide) rfl (by decide) rfl rfl ?_
    refine a_iload_n (j := 1) dX8_walk_4 rfl rfl ?_
    refine b_callV (d' := d - 1) (mc' := 0) (ms' := 0) (mc1 := 0) (ms1 := 0) (st := []) (b := 1) [vI s] dX8_walk_5 mwX7_isStop lkX8_84 (by decide) rfl rc_X7 rfl (Nat.le_of_ble_eq_true rfl) (by omega) rfl rfl (c_X7_isStop (v1 := (N 4)) (by omega) (Or.inl rfl) hR.1.1 (show 0 ≤ (N 4) ∧ (N 4) ≤ 6 by omega) (fun t5_1 => ?_) (fun t5_1 => ?_))
    · have t5_1 : 0 ≤ s ∧ s < (N 4) := t5_1
      show Aj γ mX8_walk d 0 0 Post 8 [(0, vA 0), (1, vI s)] [vI 1] (mk h τ)
      refine a_if_ne (tgt := 14) dX8_walk_8 (by decide) (fun _ => ?_) (fun c => absurd c (by decide))
      exact absurd (by omega) hin
    · have t5_1 : ¬ (0 ≤ s ∧ s < (N 4)) := t5_1
      show Aj γ mX8_walk d 0 0 Post 8 [(0, vA 0), (1, vI s)] [vI 0] (mk h τ)
      refine a_if_ne (tgt := 14) dX8_walk_8 (by decide) (fun c => absurd c (by decide)) (fun _ => ?_)
      refine a_ldc (z := (-1000000001)) dX8_walk_11 kwX8_72 ⟨by decide, by decide, by decide⟩ ?_
      exact a_iret dX8_walk_13 rfl (post_v (kQ h Fr_r hC) (by unfold vWalk; rw [if_neg hin]))
theorem RC_w {h h' : Nat → Nat → Int} {N : Nat → Int} (hF : Fr [143, 144] h h') (hC : RC h N) : RC h' N := by
  unfold RC KA KN CW dlB
  rw [hF 123 (by decide), hF 127 (by decide), hF 128 (by decide), hF 129 (by decide), hF 130 (by decide), hF 133 (by decide), hF 134 (by decide), hF 135 (by decide), hF 136 (by decide)]
  exact hC
set_option maxHeartbeats 8000000 in
theorem q_X9_walk {γ : GT} {d : Nat} {s : Int} {N : Nat → Int} {h : Nat → Nat → Int} {τ : List AC} {Post : Option AV → List AC → Prop} (hd : 12 ≤ d) (hN : h 124 = N) (hX : NX N) (hC : RC h N) (kQ : ∀ h', Fr [123, 127, 128, 129, 130, 131, 132, 133, 134, 135, 136, 143, 144] h h' → K3 h h' → RC h' N → Post (some (vI (vWalk N s))) (mk h' τ)) : Cj γ mX9_walk d 0 0 [vA 123, vI s] (mk h τ) Post := by
  have hsc := hX.1.1
  have hs1 := hsc.1
  have hs2 := hsc.2.1
  have hs3 := hsc.2.2.1
  have hs4 := hsc.2.2.2.1
  have hs5 := hsc.2.2.2.2
  have hx7 := hX.2.1
  have hx8 := hX.2.2.2.1
  obtain ⟨T, hTe⟩ : ∃ T, tt N = T := ⟨_, rfl⟩
  have hT : tOK T := hTe ▸ tt_OK hX.1
  have hNT : NTr N T := hTe ▸ NT_tt hX.1
  have e02 : N 5 = T 0 2 := hNT.1.2.2.1
  have e03 : N 4 = T 0 3 := hNT.1.2.2.2
  by_cases hin : 0 ≤ s ∧ s < N 4
  · obtain ⟨sn, rfl⟩ : ∃ sn : Nat, s = (sn : Int) := ⟨Int.toNat s, by omega⟩
    refine c_of (by decide) (Nat.le_of_ble_eq_true rfl) ?_
    show Aj γ mX9_walk d 0 0 Post 0 [(0, vA 123), (1, vI ((sn : Nat) : Int))] [] (mk h τ)
    refine a_aload_n (j := 0) dX9_walk_0 rfl rfl (Nat.le_of_ble_eq_true rfl) ?_
    refine a_iload_n (j := 1) dX9_walk_1 rfl rfl ?_
    refine b_callV (d' := d - 1) (mc' := 0) (ms' := 0) (mc1 := 0) (ms1 := 0) (st := []) (b := 123) [vI ((sn : Nat) : Int)] dX9_walk_2 mwX9_isStop lkX9_148 (by decide) rfl rc_X9 rfl (Nat.le_of_ble_eq_true rfl) (by omega) rfl rfl (c_X9_isStop (v1 := (N 4)) (by omega)  (congrFun hN _) (show 0 ≤ (N 4) ∧ (N 4) ≤ 6 by omega) (fun t2_1 => ?_) (fun t2_1 => ?_))
    · have t2_1 : 0 ≤ ((sn : Nat) : Int) ∧ ((sn : Nat) : Int) < (N 4) := t2_1
      show Aj γ mX9_walk d 0 0 Post 5 [(0, vA 123), (1, vI ((sn : Nat) : Int))] [vI 1] (mk h τ)
      refine a_if_eq (tgt := 16) dX9_walk_5 (by decide) (fun c => absurd c (by decide)) (fun _ => ?_)
      refine a_aload_n (j := 0) dX9_walk_8 rfl rfl (Nat.le_of_ble_eq_true rfl) ?_
      refine a_iload_n (j := 1) dX9_walk_9 rfl rfl ?_
      refine b_callV (d' := d - 1) (mc' := 0) (ms' := 0) (mc1 := 0) (ms1 := 0) (st := []) (b := 123) [vI ((sn : Nat) : Int)] dX9_walk_10 mwX9_walkOf lkX9_131 (by decide) rfl rc_X9 rfl (Nat.le_of_ble_eq_true rfl) (by omega) rfl rfl (c_X9_walkOf (N := N) (s := sn) (by omega) (by omega) hN hX.1.2.2.2 (fun h7 hF7 => ?_))
      show Aj γ mX9_walk d 0 0 Post 13 [(0, vA 123), (1, vI ((sn : Nat) : Int))] [vI (wkN N sn)] (mk h7 τ)
      refine a_goto (tgt := 18) dX9_walk_13 (by decide) ?_
      exact a_iret dX9_walk_18 rfl (post_v (kQ h7 (Fr_m (by decide) hF7) (fun k _ _ _ => Fr_v hF7 (by decide)) (RC_w hF7 hC)) (by unfold vWalk; rw [if_pos hin, Int.toNat_natCast]))
    · have t2_1 : ¬ (0 ≤ ((sn : Nat) : Int) ∧ ((sn : Nat) : Int) < (N 4)) := t2_1
      show Aj γ mX9_walk d 0 0 Post 5 [(0, vA 123), (1, vI ((sn : Nat) : Int))] [vI 0] (mk h τ)
      refine a_if_eq (tgt := 16) dX9_walk_5 (by decide) (fun _ => ?_) (fun c => absurd c (by decide))
      refine a_ldc (z := (-1000000001)) dX9_walk_16 kwX9_146 ⟨by decide, by decide, by decide⟩ ?_
      exact a_iret dX9_walk_18 rfl (absurd hin (by omega))
  · refine c_of (by decide) (Nat.le_of_ble_eq_true rfl) ?_
    show Aj γ mX9_walk d 0 0 Post 0 [(0, vA 123), (1, vI s)] [] (mk h τ)
    refine a_aload_n (j := 0) dX9_walk_0 rfl rfl (Nat.le_of_ble_eq_true rfl) ?_
    refine a_iload_n (j := 1) dX9_walk_1 rfl rfl ?_
    refine b_callV (d' := d - 1) (mc' := 0) (ms' := 0) (mc1 := 0) (ms1 := 0) (st := []) (b := 123) [vI s] dX9_walk_2 mwX9_isStop lkX9_148 (by decide) rfl rc_X9 rfl (Nat.le_of_ble_eq_true rfl) (by omega) rfl rfl (c_X9_isStop (v1 := (N 4)) (by omega)  (congrFun hN _) (show 0 ≤ (N 4) ∧ (N 4) ≤ 6 by omega) (fun t2_1 => ?_) (fun t2_1 => ?_))
    · have t2_1 : 0 ≤ s ∧ s < (N 4) := t2_1
      show Aj γ mX9_walk d 0 0 Post 5 [(0, vA 123), (1, vI s)] [vI 1] (mk h τ)
      refine a_if_eq (tgt := 16) dX9_walk_5 (by decide) (fun c => absurd c (by decide)) (fun _ => ?_)
      exact absurd (by omega) hin
    · have t2_1 : ¬ (0 ≤ s ∧ s < (N 4)) := t2_1
      show Aj γ mX9_walk d 0 0 Post 5 [(0, vA 123), (1, vI s)] [vI 0] (mk h τ)
      refine a_if_eq (tgt := 16) dX9_walk_5 (by decide) (fun _ => ?_) (fun c => absurd c (by decide))
      refine a_ldc (z := (-1000000001)) dX9_walk_16 kwX9_146 ⟨by decide, by decide, by decide⟩ ?_
      exact a_iret dX9_walk_18 rfl (post_v (kQ h Fr_r K3_r hC) (by unfold vWalk; rw [if_neg hin]))
set_option maxHeartbeats 8000000 in
theorem q_X8_makes {γ : GT} {d : Nat} {a b : Int} {N J : Nat → Int} {h : Nat → Nat → Int} {τ : List AC} {Post : Option AV → List AC → Prop} (hd : 12 ≤ d) (hR : WR h τ 1 N) (hX : NX N) (hC : CC h N J) (kQ : ∀ h', Fr [63, 64, 65, 66, 67, 68, 69, 70, 71, 72, 73, 74, 75, 76, 77, 78, 79, 80, 81, 82, 83] h h' → CC h' N J → Post (some (vI (vMakes N a b))) (mk h' τ)) : Cj γ mX8_makes d 0 0 [vA 0, vI a, vI b] (mk h τ) Post := by
  have hsc := hX.1.1
  have hs1 := hsc.1
  have hs2 := hsc.2.1
  have hs3 := hsc.2.2.1
  have hs4 := hsc.2.2.2.1
  have hs5 := hsc.2.2.2.2
  have hx7 := hX.2.1
  have hx8 := hX.2.2.2.1
  obtain ⟨T, hTe⟩ : ∃ T, tt N = T := ⟨_, rfl⟩
  have hT : tOK T := hTe ▸ tt_OK hX.1
  have hNT : NTr N T := hTe ▸ NT_tt hX.1
  have e02 : N 5 = T 0 2 := hNT.1.2.2.1
  have e03 : N 4 = T 0 3 := hNT.1.2.2.2
  by_cases hin : (0 ≤ a ∧ a < N 5) ∧ (0 ≤ b ∧ b < N 5) ∧ ¬ a = b
  · obtain ⟨an, rfl⟩ : ∃ an : Nat, a = (an : Int) := ⟨Int.toNat a, by omega⟩
    obtain ⟨bn, rfl⟩ : ∃ bn : Nat, b = (bn : Int) := ⟨Int.toNat b, by omega⟩
    have ea := hNT.2 an (by omega)
    have eb := hNT.2 bn (by omega)
    have ea1 := ea.2.1
    have eb1 := eb.1
    refine c_of (by decide) (Nat.le_of_ble_eq_true rfl) ?_
    show Aj γ mX8_makes d 0 0 Post 0 [(0, vA 0), (1, vI ((an : Nat) : Int)), (2, vI ((bn : Nat) : Int))] [] (mk h τ)
    refine a_aload_n (j := 0) dX8_makes_0 rfl rfl (Nat.le_of_ble_eq_true rfl) ?_
    refine a_iload_n (j := 1) dX8_makes_1 rfl rfl ?_
    refine a_iload_n (j := 2) dX8_makes_2 rfl rfl ?_
    refine b_callV (d' := d - 1) (mc' := 0) (ms' := 0) (mc1 := 0) (ms1 := 0) (st := []) (b := 0) [vI ((an : Nat) : Int), vI ((bn : Nat) : Int)] dX8_makes_3 mwX8_areTwoTrains lkX8_166 (by decide) rfl rc_X8 rfl (Nat.le_of_ble_eq_true rfl) (by omega) rfl rfl (c_X8_areTwoTrains (v1 := (N 5)) (by omega)  hR.1.2.1 (show 0 ≤ (N 5) ∧ (N 5) ≤ 12 by omega) (fun t3_1 => ?_) (fun t3_1 => ?_))
    · have t3_1 : (0 ≤ ((an : Nat) : Int) ∧ ((an : Nat) : Int) < (N 5)) ∧ (0 ≤ ((bn : Nat) : Int) ∧ ((bn : Nat) : Int) < (N 5)) ∧ ¬ ((an : Nat) : Int) = ((bn : Nat) : Int) := t3_1
      show Aj γ mX8_makes d 0 0 Post 6 [(0, vA 0), (1, vI ((an : Nat) : Int)), (2, vI ((bn : Nat) : Int))] [vI 1] (mk h τ)
      refine a_if_ne (tgt := 12) dX8_makes_6 (by decide) (fun _ => ?_) (fun c => absurd c (by decide))
      refine a_aload_n (j := 0) dX8_makes_12 rfl rfl (Nat.le_of_ble_eq_true rfl) ?_
      refine b_getp (a := 0) (p := 63) dX8_makes_13 fwX8_24 (by decide) rfl (by decide) rfl rfl ?_
      refine a_aload_n (j := 0) dX8_makes_16 rfl rfl (Nat.le_of_ble_eq_true rfl) ?_
      refine b_getp (a := 0) (p := 1) dX8_makes_17 fwX8_14 (by decide) rfl (by decide) rfl rfl ?_
      refine b_callV (d' := d - 1) (mc' := 0) (ms' := 0) (mc1 := 0) (ms1 := 0) (st := []) (b := 63) [vA 1] dX8_makes_20 mwX5_refresh lkX8_88 (by decide) rfl rc_X5 rfl (Nat.le_of_ble_eq_true rfl) (by omega) rfl rfl (k_refresh (N := N) (J := J) (by omega) hR hX.1 hC (fun h7 hF7 c7 t7 => ?_))
      rw [hTe] at t7
      show Aj γ mX8_makes d 0 0 Post 23 [(0, vA 0), (1, vI ((an : Nat) : Int)), (2, vI ((bn : Nat) : Int))] [] (mk h7 τ)
      refine a_aload_n (j := 0) dX8_makes_23 rfl rfl (Nat.le_of_ble_eq_true rfl) ?_
      refine b_getp (a := 0) (p := 63) dX8_makes_24 fwX8_24 (by decide) rfl (by decide) rfl rfl ?_
      refine a_iload_n (j := 1) dX8_makes_27 rfl rfl ?_
      refine a_iload_n (j := 2) dX8_makes_28 rfl rfl ?_
      refine b_callV (d' := d - 1) (mc' := 0) (ms' := 0) (mc1 := 0) (ms1 := 0) (st := []) (b := 63) [vI ((an : Nat) : Int), vI ((bn : Nat) : Int)] dX8_makes_29 mwX5_joins lkX8_169 (by decide) rfl rc_X5 rfl (Nat.le_of_ble_eq_true rfl) (by omega) rfl rfl (c_X5_joins (v1 := (T 2 bn)) (v2 := (T 3 an)) (by omega)  ((congrArg (h7 65) (show (Int.toNat ((bn : Nat) : Int)) = bn by omega)).trans (t7.2.2.1 bn (by omega)).1) ((congrArg (h7 66) (show (Int.toNat ((an : Nat) : Int)) = an by omega)).trans (t7.2.2.1 an (by omega)).2.1) (show 0 ≤ ((an : Nat) : Int) ∧ ((an : Nat) : Int) ≤ 11 by omega) (show 0 ≤ ((bn : Nat) : Int) ∧ ((bn : Nat) : Int) ≤ 11 by omega) (fun t29_2 => ?_) (fun t29_2 => ?_))
      · have t29_2 : (T 2 bn) = (T 3 an) := t29_2
        show Aj γ mX8_makes d 0 0 Post 32 [(0, vA 0), (1, vI ((an : Nat) : Int)), (2, vI ((bn : Nat) : Int))] [vI 1] (mk h7 τ)
        refine a_if_eq (tgt := 48) dX8_makes_32 (by decide) (fun c => absurd c (by decide)) (fun _ => ?_)
        refine a_aload_n (j := 0) dX8_makes_35 rfl rfl (Nat.le_of_ble_eq_true rfl) ?_
        refine b_getp (a := 0) (p := 63) dX8_makes_36 fwX8_24 (by decide) rfl (by decide) rfl rfl ?_
        refine a_iload_n (j := 1) dX8_makes_39 rfl rfl ?_
        refine a_iload_n (j := 2) dX8_makes_40 rfl rfl ?_
        refine a_iconst dX8_makes_41 ⟨by decide, by decide⟩ ?_
        refine b_callV (d' := d - 1) (mc' := 0) (ms' := 0) (mc1 := 0) (ms1 := 0) (st := []) (b := 63) [vI ((an : Nat) : Int), vI ((bn : Nat) : Int), vI 0] dX8_makes_42 mwX5_madeOf lkX8_172 (by decide) rfl rc_X5 rfl (Nat.le_of_ble_eq_true rfl) (by omega) rfl rfl (c_X5_madeOf (T := T) (a := an) (b := bn) (more := 0) (by omega) hT t7 (by omega) (by omega) ?_)
        show Aj γ mX8_makes d 0 0 Post 45 [(0, vA 0), (1, vI ((an : Nat) : Int)), (2, vI ((bn : Nat) : Int))] [vI (mkT T an bn 0)] (mk h7 τ)
        refine a_goto (tgt := 50) dX8_makes_45 (by decide) ?_
        exact a_iret dX8_makes_50 rfl (post_v (kQ h7 hF7 c7) (by unfold vMakes; simp only [Int.toNat_natCast]; rw [if_pos (by omega), if_pos (by omega), hTe]))
      · have t29_2 : ¬ ((T 2 bn) = (T 3 an)) := t29_2
        show Aj γ mX8_makes d 0 0 Post 32 [(0, vA 0), (1, vI ((an : Nat) : Int)), (2, vI ((bn : Nat) : Int))] [vI 0] (mk h7 τ)
        refine a_if_eq (tgt := 48) dX8_makes_32 (by decide) (fun _ => ?_) (fun c => absurd c (by decide))
        refine a_ldc (z := (-1000000002)) dX8_makes_48 kwX8_176 ⟨by decide, by decide, by decide⟩ ?_
        exact a_iret dX8_makes_50 rfl (post_v (kQ h7 hF7 c7) (by unfold vMakes; simp only [Int.toNat_natCast]; rw [if_pos (by omega), if_neg (by omega)]))
    · have t3_1 : ¬ ((0 ≤ ((an : Nat) : Int) ∧ ((an : Nat) : Int) < (N 5)) ∧ (0 ≤ ((bn : Nat) : Int) ∧ ((bn : Nat) : Int) < (N 5)) ∧ ¬ ((an : Nat) : Int) = ((bn : Nat) : Int)) := t3_1
      show Aj γ mX8_makes d 0 0 Post 6 [(0, vA 0), (1, vI ((an : Nat) : Int)), (2, vI ((bn : Nat) : Int))] [vI 0] (mk h τ)
      refine a_if_ne (tgt := 12) dX8_makes_6 (by decide) (fun c => absurd c (by decide)) (fun _ => ?_)
      refine a_ldc (z := (-1000000001)) dX8_makes_9 kwX8_72 ⟨by decide, by decide, by decide⟩ ?_
      exact a_iret dX8_makes_11 rfl (absurd hin (by omega))
  · refine c_of (by decide) (Nat.le_of_ble_eq_true rfl) ?_
    show Aj γ mX8_makes d 0 0 Post 0 [(0, vA 0), (1, vI a), (2, vI b)] [] (mk h τ)
    refine a_aload_n (j := 0) dX8_makes_0 rfl rfl (Nat.le_of_ble_eq_true rfl) ?_
    refine a_iload_n (j := 1) dX8_makes_1 rfl rfl ?_
    refine a_iload_n (j := 2) dX8_makes_2 rfl rfl ?_
    refine b_callV (d' := d - 1) (mc' := 0) (ms' := 0) (mc1 := 0) (ms1 := 0) (st := []) (b := 0) [vI a, vI b] dX8_makes_3 mwX8_areTwoTrains lkX8_166 (by decide) rfl rc_X8 rfl (Nat.le_of_ble_eq_true rfl) (by omega) rfl rfl (c_X8_areTwoTrains (v1 := (N 5)) (by omega)  hR.1.2.1 (show 0 ≤ (N 5) ∧ (N 5) ≤ 12 by omega) (fun t3_1 => ?_) (fun t3_1 => ?_))
    · have t3_1 : (0 ≤ a ∧ a < (N 5)) ∧ (0 ≤ b ∧ b < (N 5)) ∧ ¬ a = b := t3_1
      show Aj γ mX8_makes d 0 0 Post 6 [(0, vA 0), (1, vI a), (2, vI b)] [vI 1] (mk h τ)
      refine a_if_ne (tgt := 12) dX8_makes_6 (by decide) (fun _ => ?_) (fun c => absurd c (by decide))
      exact absurd (by omega) hin
    · have t3_1 : ¬ ((0 ≤ a ∧ a < (N 5)) ∧ (0 ≤ b ∧ b < (N 5)) ∧ ¬ a = b) := t3_1
      show Aj γ mX8_makes d 0 0 Post 6 [(0, vA 0), (1, vI a), (2, vI b)] [vI 0] (mk h τ)
      refine a_if_ne (tgt := 12) dX8_makes_6 (by decide) (fun c => absurd c (by decide)) (fun _ => ?_)
      refine a_ldc (z := (-1000000001)) dX8_makes_9 kwX8_72 ⟨by decide, by decide, by decide⟩ ?_
      exact a_iret dX8_makes_11 rfl (post_v (kQ h Fr_r hC) (by unfold vMakes; rw [if_neg hin]))
set_option maxHeartbeats 8000000 in
theorem q_X9_makes {γ : GT} {d : Nat} {a b : Int} {N : Nat → Int} {h : Nat → Nat → Int} {τ : List AC} {Post : Option AV → List AC → Prop} (hd : 12 ≤ d) (hN : h 124 = N) (hX : NX N) (hC : RC h N) (kQ : ∀ h', Fr [123, 127, 128, 129, 130, 131, 132, 133, 134, 135, 136, 143, 144] h h' → K3 h h' → RC h' N → Post (some (vI (vMakes N a b))) (mk h' τ)) : Cj γ mX9_makes d 0 0 [vA 123, vI a, vI b] (mk h τ) Post := by
  have hsc := hX.1.1
  have hs1 := hsc.1
  have hs2 := hsc.2.1
  have hs3 := hsc.2.2.1
  have hs4 := hsc.2.2.2.1
  have hs5 := hsc.2.2.2.2
  have hx7 := hX.2.1
  have hx8 := hX.2.2.2.1
  obtain ⟨T, hTe⟩ : ∃ T, tt N = T := ⟨_, rfl⟩
  have hT : tOK T := hTe ▸ tt_OK hX.1
  have hNT : NTr N T := hTe ▸ NT_tt hX.1
  have e02 : N 5 = T 0 2 := hNT.1.2.2.1
  have e03 : N 4 = T 0 3 := hNT.1.2.2.2
  by_cases hin : (0 ≤ a ∧ a < N 5) ∧ (0 ≤ b ∧ b < N 5) ∧ ¬ a = b
  · obtain ⟨an, rfl⟩ : ∃ an : Nat, a = (an : Int) := ⟨Int.toNat a, by omega⟩
    obtain ⟨bn, rfl⟩ : ∃ bn : Nat, b = (bn : Int) := ⟨Int.toNat b, by omega⟩
    have ea := hNT.2 an (by omega)
    have eb := hNT.2 bn (by omega)
    have ea1 := ea.2.1
    have eb1 := eb.1
    refine c_of (by decide) (Nat.le_of_ble_eq_true rfl) ?_
    show Aj γ mX9_makes d 0 0 Post 0 [(0, vA 123), (1, vI ((an : Nat) : Int)), (2, vI ((bn : Nat) : Int))] [] (mk h τ)
    refine a_aload_n (j := 0) dX9_makes_0 rfl rfl (Nat.le_of_ble_eq_true rfl) ?_
    refine a_iload_n (j := 1) dX9_makes_1 rfl rfl ?_
    refine a_iload_n (j := 2) dX9_makes_2 rfl rfl ?_
    refine b_callV (d' := d - 1) (mc' := 0) (ms' := 0) (mc1 := 0) (ms1 := 0) (st := []) (b := 123) [vI ((an : Nat) : Int), vI ((bn : Nat) : Int)] dX9_makes_3 mwX9_areTwo lkX9_182 (by decide) rfl rc_X9 rfl (Nat.le_of_ble_eq_true rfl) (by omega) rfl rfl (c_X9_areTwo (v1 := (N 5)) (by omega)  (congrFun hN _) (show 0 ≤ (N 5) ∧ (N 5) ≤ 12 by omega) (fun t3_1 => ?_) (fun t3_1 => ?_))
    · have t3_1 : (0 ≤ ((an : Nat) : Int) ∧ ((an : Nat) : Int) < (N 5)) ∧ (0 ≤ ((bn : Nat) : Int) ∧ ((bn : Nat) : Int) < (N 5)) ∧ ¬ ((an : Nat) : Int) = ((bn : Nat) : Int) := t3_1
      show Aj γ mX9_makes d 0 0 Post 6 [(0, vA 123), (1, vI ((an : Nat) : Int)), (2, vI ((bn : Nat) : Int))] [vI 1] (mk h τ)
      refine a_if_ne (tgt := 12) dX9_makes_6 (by decide) (fun _ => ?_) (fun c => absurd c (by decide))
      refine a_aload_n (j := 0) dX9_makes_12 rfl rfl (Nat.le_of_ble_eq_true rfl) ?_
      refine a_iload_n (j := 1) dX9_makes_13 rfl rfl ?_
      refine a_iconst dX9_makes_14 ⟨by decide, by decide⟩ ?_
      refine b_callV (d' := d - 1) (mc' := 0) (ms' := 0) (mc1 := 0) (ms1 := 0) (st := []) (b := 123) [vI ((an : Nat) : Int), vI 2] dX9_makes_15 mwX9_of lkX9_107 (by decide) rfl rc_X9 rfl (Nat.le_of_ble_eq_true rfl) (by omega) rfl rfl (c_X9_of (v1 := (N (17 + 11 * an))) (by omega)  ((congrArg (h 124) (show (Int.toNat ((15 + (11 * ((an : Nat) : Int))) + 2)) = (17 + 11 * an) by omega)).trans (congrFun hN _)) (show 0 ≤ ((an : Nat) : Int) ∧ ((an : Nat) : Int) ≤ 11 ∧ 0 ≤ 2 ∧ 2 ≤ 10 by omega) ?_)
      show Aj γ mX9_makes d 0 0 Post 18 [(0, vA 123), (1, vI ((an : Nat) : Int)), (2, vI ((bn : Nat) : Int))] [vI (N (17 + 11 * an))] (mk h τ)
      refine a_aload_n (j := 0) dX9_makes_18 rfl rfl (Nat.le_of_ble_eq_true rfl) ?_
      refine a_iload_n (j := 2) dX9_makes_19 rfl rfl ?_
      refine a_iconst dX9_makes_20 ⟨by decide, by decide⟩ ?_
      refine b_callV (d' := d - 1) (mc' := 0) (ms' := 0) (mc1 := 0) (ms1 := 0) (st := [vI (N (17 + 11 * an))]) (b := 123) [vI ((bn : Nat) : Int), vI 1] dX9_makes_21 mwX9_of lkX9_107 (by decide) rfl rc_X9 rfl (Nat.le_of_ble_eq_true rfl) (by omega) rfl rfl (c_X9_of (v1 := (N (16 + 11 * bn))) (by omega)  ((congrArg (h 124) (show (Int.toNat ((15 + (11 * ((bn : Nat) : Int))) + 1)) = (16 + 11 * bn) by omega)).trans (congrFun hN _)) (show 0 ≤ ((bn : Nat) : Int) ∧ ((bn : Nat) : Int) ≤ 11 ∧ 0 ≤ 1 ∧ 1 ≤ 10 by omega) ?_)
      show Aj γ mX9_makes d 0 0 Post 24 [(0, vA 123), (1, vI ((an : Nat) : Int)), (2, vI ((bn : Nat) : Int))] [vI (N (16 + 11 * bn)), vI (N (17 + 11 * an))] (mk h τ)
      refine a_icmp_eq (tgt := 30) dX9_makes_24 (by decide) (fun c24_2 => ?_) (fun c24_2 => ?_)
      · refine a_aload_n (j := 0) dX9_makes_30 rfl rfl (Nat.le_of_ble_eq_true rfl) ?_
        refine b_callV (d' := d - 1) (mc' := 0) (ms' := 0) (mc1 := 0) (ms1 := 0) (st := []) (b := 123) [] dX9_makes_31 mwX9_learns lkX9_155 (by decide) rfl rc_X9 rfl (Nat.le_of_ble_eq_true rfl) (by omega) rfl rfl (k_learns (N := N) (by omega) hN hX.1 hC (fun h7 hF7 k7 c7 t7 g7 => ?_))
        rw [hTe] at t7 g7
        show Aj γ mX9_makes d 0 0 Post 34 [(0, vA 123), (1, vI ((an : Nat) : Int)), (2, vI ((bn : Nat) : Int))] [] (mk h7 τ)
        refine a_aload_n (j := 0) dX9_makes_34 rfl rfl (Nat.le_of_ble_eq_true rfl) ?_
        refine a_iload_n (j := 1) dX9_makes_35 rfl rfl ?_
        refine a_iload_n (j := 2) dX9_makes_36 rfl rfl ?_
        refine a_iconst dX9_makes_37 ⟨by decide, by decide⟩ ?_
        refine b_callV (d' := d - 1) (mc' := 0) (ms' := 0) (mc1 := 0) (ms1 := 0) (st := []) (b := 123) [vI ((an : Nat) : Int), vI ((bn : Nat) : Int), vI 0] dX9_makes_38 mwX9_makesBy lkX9_186 (by decide) rfl rc_X9 rfl (Nat.le_of_ble_eq_true rfl) (by omega) rfl rfl (c_X9_makesBy (T := T) (a := an) (b := bn) (more := 0) (by omega) hT t7 (by omega) (by omega) (by omega) ?_)
        show Aj γ mX9_makes d 0 0 Post 41 [(0, vA 123), (1, vI ((an : Nat) : Int)), (2, vI ((bn : Nat) : Int))] [vI (mkT T an bn 0)] (mk h7 τ)
        exact a_iret dX9_makes_41 rfl (post_v (kQ h7 hF7 k7 c7) (by unfold vMakes; simp only [Int.toNat_natCast]; rw [if_pos (by omega), if_pos (by omega), hTe]))
      · refine a_ldc (z := (-1000000002)) dX9_makes_27 kwX9_185 ⟨by decide, by decide, by decide⟩ ?_
        exact a_iret dX9_makes_29 rfl (post_v (kQ h Fr_r K3_r hC) (by unfold vMakes; simp only [Int.toNat_natCast]; rw [if_pos (by omega), if_neg (by omega)]))
    · have t3_1 : ¬ ((0 ≤ ((an : Nat) : Int) ∧ ((an : Nat) : Int) < (N 5)) ∧ (0 ≤ ((bn : Nat) : Int) ∧ ((bn : Nat) : Int) < (N 5)) ∧ ¬ ((an : Nat) : Int) = ((bn : Nat) : Int)) := t3_1
      show Aj γ mX9_makes d 0 0 Post 6 [(0, vA 123), (1, vI ((an : Nat) : Int)), (2, vI ((bn : Nat) : Int))] [vI 0] (mk h τ)
      refine a_if_ne (tgt := 12) dX9_makes_6 (by decide) (fun c => absurd c (by decide)) (fun _ => ?_)
      refine a_ldc (z := (-1000000001)) dX9_makes_9 kwX9_146 ⟨by decide, by decide, by decide⟩ ?_
      exact a_iret dX9_makes_11 rfl (absurd hin (by omega))
  · refine c_of (by decide) (Nat.le_of_ble_eq_true rfl) ?_
    show Aj γ mX9_makes d 0 0 Post 0 [(0, vA 123), (1, vI a), (2, vI b)] [] (mk h τ)
    refine a_aload_n (j := 0) dX9_makes_0 rfl rfl (Nat.le_of_ble_eq_true rfl) ?_
    refine a_iload_n (j := 1) dX9_makes_1 rfl rfl ?_
    refine a_iload_n (j := 2) dX9_makes_2 rfl rfl ?_
    refine b_callV (d' := d - 1) (mc' := 0) (ms' := 0) (mc1 := 0) (ms1 := 0) (st := []) (b := 123) [vI a, vI b] dX9_makes_3 mwX9_areTwo lkX9_182 (by decide) rfl rc_X9 rfl (Nat.le_of_ble_eq_true rfl) (by omega) rfl rfl (c_X9_areTwo (v1 := (N 5)) (by omega)  (congrFun hN _) (show 0 ≤ (N 5) ∧ (N 5) ≤ 12 by omega) (fun t3_1 => ?_) (fun t3_1 => ?_))
    · have t3_1 : (0 ≤ a ∧ a < (N 5)) ∧ (0 ≤ b ∧ b < (N 5)) ∧ ¬ a = b := t3_1
      show Aj γ mX9_makes d 0 0 Post 6 [(0, vA 123), (1, vI a), (2, vI b)] [vI 1] (mk h τ)
      refine a_if_ne (tgt := 12) dX9_makes_6 (by decide) (fun _ => ?_) (fun c => absurd c (by decide))
      exact absurd (by omega) hin
    · have t3_1 : ¬ ((0 ≤ a ∧ a < (N 5)) ∧ (0 ≤ b ∧ b < (N 5)) ∧ ¬ a = b) := t3_1
      show Aj γ mX9_makes d 0 0 Post 6 [(0, vA 123), (1, vI a), (2, vI b)] [vI 0] (mk h τ)
      refine a_if_ne (tgt := 12) dX9_makes_6 (by decide) (fun c => absurd c (by decide)) (fun _ => ?_)
      refine a_ldc (z := (-1000000001)) dX9_makes_9 kwX9_146 ⟨by decide, by decide, by decide⟩ ?_
      exact a_iret dX9_makes_11 rfl (post_v (kQ h Fr_r K3_r hC) (by unfold vMakes; rw [if_neg hin]))
set_option maxHeartbeats 8000000 in
theorem q_X8_mends {γ : GT} {d : Nat} {a b v : Int} {N J : Nat → Int} {h : Nat → Nat → Int} {τ : List AC} {Post : Option AV → List AC → Prop} (hd : 12 ≤ d) (hR : WR h τ 1 N) (hX : NX N) (hC : CC h N J) (kQ : ∀ h', Fr [63, 64, 65, 66, 67, 68, 69, 70, 71, 72, 73, 74, 75, 76, 77, 78, 79, 80, 81, 82, 83] h h' → CC h' N J → Post (some (vI (vMends N a b v))) (mk h' τ)) : Cj γ mX8_mends d 0 0 [vA 0, vI a, vI b, vI v] (mk h τ) Post := by
  have hsc := hX.1.1
  have hs1 := hsc.1
  have hs2 := hsc.2.1
  have hs3 := hsc.2.2.1
  have hs4 := hsc.2.2.2.1
  have hs5 := hsc.2.2.2.2
  have hx7 := hX.2.1
  have hx8 := hX.2.2.2.1
  obtain ⟨T, hTe⟩ : ∃ T, tt N = T := ⟨_, rfl⟩
  have hT : tOK T := hTe ▸ tt_OK hX.1
  have hNT : NTr N T := hTe ▸ NT_tt hX.1
  have e02 : N 5 = T 0 2 := hNT.1.2.2.1
  have e03 : N 4 = T 0 3 := hNT.1.2.2.2
  by_cases hin : ((0 ≤ a ∧ a < N 5) ∧ (0 ≤ b ∧ b < N 5) ∧ ¬ a = b) ∧ (1 ≤ v ∧ v ≤ 10000)
  · obtain ⟨an, rfl⟩ : ∃ an : Nat, a = (an : Int) := ⟨Int.toNat a, by omega⟩
    obtain ⟨bn, rfl⟩ : ∃ bn : Nat, b = (bn : Int) := ⟨Int.toNat b, by omega⟩
    have ea := hNT.2 an (by omega)
    have eb := hNT.2 bn (by omega)
    have ea1 := ea.2.1
    have eb1 := eb.1
    refine c_of (by decide) (Nat.le_of_ble_eq_true rfl) ?_
    show Aj γ mX8_mends d 0 0 Post 0 [(0, vA 0), (1, vI ((an : Nat) : Int)), (2, vI ((bn : Nat) : Int)), (3, vI v)] [] (mk h τ)
    refine a_aload_n (j := 0) dX8_mends_0 rfl rfl (Nat.le_of_ble_eq_true rfl) ?_
    refine a_iload_n (j := 1) dX8_mends_1 rfl rfl ?_
    refine a_iload_n (j := 2) dX8_mends_2 rfl rfl ?_
    refine b_callV (d' := d - 1) (mc' := 0) (ms' := 0) (mc1 := 0) (ms1 := 0) (st := []) (b := 0) [vI ((an : Nat) : Int), vI ((bn : Nat) : Int)] dX8_mends_3 mwX8_areTwoTrains lkX8_166 (by decide) rfl rc_X8 rfl (Nat.le_of_ble_eq_true rfl) (by omega) rfl rfl (c_X8_areTwoTrains (v1 := (N 5)) (by omega)  hR.1.2.1 (show 0 ≤ (N 5) ∧ (N 5) ≤ 12 by omega) (fun t3_1 => ?_) (fun t3_1 => ?_))
    · have t3_1 : (0 ≤ ((an : Nat) : Int) ∧ ((an : Nat) : Int) < (N 5)) ∧ (0 ≤ ((bn : Nat) : Int) ∧ ((bn : Nat) : Int) < (N 5)) ∧ ¬ ((an : Nat) : Int) = ((bn : Nat) : Int) := t3_1
      show Aj γ mX8_mends d 0 0 Post 6 [(0, vA 0), (1, vI ((an : Nat) : Int)), (2, vI ((bn : Nat) : Int)), (3, vI v)] [vI 1] (mk h τ)
      refine a_if_eq (tgt := 20) dX8_mends_6 (by decide) (fun c => absurd c (by decide)) (fun _ => ?_)
      refine a_iload_n (j := 3) dX8_mends_9 rfl rfl ?_
      refine a_iconst dX8_mends_10 ⟨by decide, by decide⟩ ?_
      refine a_sipush dX8_mends_11 ⟨by decide, by decide, by decide⟩ ?_
      refine a_callS (d' := d - 1) (mc' := 0) (ms' := 0) (mc1 := 0) (ms1 := 0) (st := []) [vI v, vI 1, vI 10000] dX8_mends_14 mwX8_within lkX8_68 rfl (Nat.le_of_ble_eq_true rfl) (by omega) rfl rfl (c_X8_within  (by omega)    (fun t14_2 => ?_) (fun t14_2 => ?_))
      · have t14_2 : 1 ≤ v ∧ v ≤ 10000 := t14_2
        show Aj γ mX8_mends d 0 0 Post 17 [(0, vA 0), (1, vI ((an : Nat) : Int)), (2, vI ((bn : Nat) : Int)), (3, vI v)] [vI 1] (mk h τ)
        refine a_if_ne (tgt := 23) dX8_mends_17 (by decide) (fun _ => ?_) (fun c => absurd c (by decide))
        refine a_aload_n (j := 0) dX8_mends_23 rfl rfl (Nat.le_of_ble_eq_true rfl) ?_
        refine b_getp (a := 0) (p := 63) dX8_mends_24 fwX8_24 (by decide) rfl (by decide) rfl rfl ?_
        refine a_aload_n (j := 0) dX8_mends_27 rfl rfl (Nat.le_of_ble_eq_true rfl) ?_
        refine b_getp (a := 0) (p := 1) dX8_mends_28 fwX8_14 (by decide) rfl (by decide) rfl rfl ?_
        refine b_callV (d' := d - 1) (mc' := 0) (ms' := 0) (mc1 := 0) (ms1 := 0) (st := []) (b := 63) [vA 1] dX8_mends_31 mwX5_refresh lkX8_88 (by decide) rfl rc_X5 rfl (Nat.le_of_ble_eq_true rfl) (by omega) rfl rfl (k_refresh (N := N) (J := J) (by omega) hR hX.1 hC (fun h7 hF7 c7 t7 => ?_))
        rw [hTe] at t7
        show Aj γ mX8_mends d 0 0 Post 34 [(0, vA 0), (1, vI ((an : Nat) : Int)), (2, vI ((bn : Nat) : Int)), (3, vI v)] [] (mk h7 τ)
        refine a_aload_n (j := 0) dX8_mends_34 rfl rfl (Nat.le_of_ble_eq_true rfl) ?_
        refine b_getp (a := 0) (p := 63) dX8_mends_35 fwX8_24 (by decide) rfl (by decide) rfl rfl ?_
        refine a_iload_n (j := 1) dX8_mends_38 rfl rfl ?_
        refine a_iload_n (j := 2) dX8_mends_39 rfl rfl ?_
        refine b_callV (d' := d - 1) (mc' := 0) (ms' := 0) (mc1 := 0) (ms1 := 0) (st := []) (b := 63) [vI ((an : Nat) : Int), vI ((bn : Nat) : Int)] dX8_mends_40 mwX5_joins lkX8_169 (by decide) rfl rc_X5 rfl (Nat.le_of_ble_eq_true rfl) (by omega) rfl rfl (c_X5_joins (v1 := (T 2 bn)) (v2 := (T 3 an)) (by omega)  ((congrArg (h7 65) (show (Int.toNat ((bn : Nat) : Int)) = bn by omega)).trans (t7.2.2.1 bn (by omega)).1) ((congrArg (h7 66) (show (Int.toNat ((an : Nat) : Int)) = an by omega)).trans (t7.2.2.1 an (by omega)).2.1) (show 0 ≤ ((an : Nat) : Int) ∧ ((an : Nat) : Int) ≤ 11 by omega) (show 0 ≤ ((bn : Nat) : Int) ∧ ((bn : Nat) : Int) ≤ 11 by omega) (fun t40_3 => ?_) (fun t40_3 => ?_))
        · have t40_3 : (T 2 bn) = (T 3 an) := t40_3
          show Aj γ mX8_mends d 0 0 Post 43 [(0, vA 0), (1, vI ((an : Nat) : Int)), (2, vI ((bn : Nat) : Int)), (3, vI v)] [vI 1] (mk h7 τ)
          refine a_if_eq (tgt := 59) dX8_mends_43 (by decide) (fun c => absurd c (by decide)) (fun _ => ?_)
          refine a_aload_n (j := 0) dX8_mends_46 rfl rfl (Nat.le_of_ble_eq_true rfl) ?_
          refine b_getp (a := 0) (p := 63) dX8_mends_47 fwX8_24 (by decide) rfl (by decide) rfl rfl ?_
          refine a_iload_n (j := 1) dX8_mends_50 rfl rfl ?_
          refine a_iload_n (j := 2) dX8_mends_51 rfl rfl ?_
          refine a_iload_n (j := 3) dX8_mends_52 rfl rfl ?_
          refine b_callV (d' := d - 1) (mc' := 0) (ms' := 0) (mc1 := 0) (ms1 := 0) (st := []) (b := 63) [vI ((an : Nat) : Int), vI ((bn : Nat) : Int), vI v] dX8_mends_53 mwX5_mendedBy lkX8_177 (by decide) rfl rc_X5 rfl (Nat.le_of_ble_eq_true rfl) (by omega) rfl rfl (c_X5_mendedBy (T := T) (a := an) (b := bn) (v := v) (by omega) hT t7 (by omega) (by omega) (by omega) ?_)
          show Aj γ mX8_mends d 0 0 Post 56 [(0, vA 0), (1, vI ((an : Nat) : Int)), (2, vI ((bn : Nat) : Int)), (3, vI v)] [vI (fndV (mdP T an bn v) 0 1000)] (mk h7 τ)
          refine a_goto (tgt := 61) dX8_mends_56 (by decide) ?_
          exact a_iret dX8_mends_61 rfl (post_v (kQ h7 hF7 c7) (by unfold vMends; simp only [Int.toNat_natCast]; rw [if_pos (by omega), if_pos (by omega), hTe]))
        · have t40_3 : ¬ ((T 2 bn) = (T 3 an)) := t40_3
          show Aj γ mX8_mends d 0 0 Post 43 [(0, vA 0), (1, vI ((an : Nat) : Int)), (2, vI ((bn : Nat) : Int)), (3, vI v)] [vI 0] (mk h7 τ)
          refine a_if_eq (tgt := 59) dX8_mends_43 (by decide) (fun _ => ?_) (fun c => absurd c (by decide))
          refine a_ldc (z := (-1000000002)) dX8_mends_59 kwX8_176 ⟨by decide, by decide, by decide⟩ ?_
          exact a_iret dX8_mends_61 rfl (post_v (kQ h7 hF7 c7) (by unfold vMends; simp only [Int.toNat_natCast]; rw [if_pos (by omega), if_neg (by omega)]))
      · have t14_2 : ¬ (1 ≤ v ∧ v ≤ 10000) := t14_2
        show Aj γ mX8_mends d 0 0 Post 17 [(0, vA 0), (1, vI ((an : Nat) : Int)), (2, vI ((bn : Nat) : Int)), (3, vI v)] [vI 0] (mk h τ)
        refine a_if_ne (tgt := 23) dX8_mends_17 (by decide) (fun c => absurd c (by decide)) (fun _ => ?_)
        refine a_ldc (z := (-1000000001)) dX8_mends_20 kwX8_72 ⟨by decide, by decide, by decide⟩ ?_
        exact a_iret dX8_mends_22 rfl (absurd hin (by omega))
    · have t3_1 : ¬ ((0 ≤ ((an : Nat) : Int) ∧ ((an : Nat) : Int) < (N 5)) ∧ (0 ≤ ((bn : Nat) : Int) ∧ ((bn : Nat) : Int) < (N 5)) ∧ ¬ ((an : Nat) : Int) = ((bn : Nat) : Int)) := t3_1
      show Aj γ mX8_mends d 0 0 Post 6 [(0, vA 0), (1, vI ((an : Nat) : Int)), (2, vI ((bn : Nat) : Int)), (3, vI v)] [vI 0] (mk h τ)
      refine a_if_eq (tgt := 20) dX8_mends_6 (by decide) (fun _ => ?_) (fun c => absurd c (by decide))
      refine a_ldc (z := (-1000000001)) dX8_mends_20 kwX8_72 ⟨by decide, by decide, by decide⟩ ?_
      exact a_iret dX8_mends_22 rfl (absurd hin (by omega))
  · refine c_of (by decide) (Nat.le_of_ble_eq_true rfl) ?_
    show Aj γ mX8_mends d 0 0 Post 0 [(0, vA 0), (1, vI a), (2, vI b), (3, vI v)] [] (mk h τ)
    refine a_aload_n (j := 0) dX8_mends_0 rfl rfl (Nat.le_of_ble_eq_true rfl) ?_
    refine a_iload_n (j := 1) dX8_mends_1 rfl rfl ?_
    refine a_iload_n (j := 2) dX8_mends_2 rfl rfl ?_
    refine b_callV (d' := d - 1) (mc' := 0) (ms' := 0) (mc1 := 0) (ms1 := 0) (st := []) (b := 0) [vI a, vI b] dX8_mends_3 mwX8_areTwoTrains lkX8_166 (by decide) rfl rc_X8 rfl (Nat.le_of_ble_eq_true rfl) (by omega) rfl rfl (c_X8_areTwoTrains (v1 := (N 5)) (by omega)  hR.1.2.1 (show 0 ≤ (N 5) ∧ (N 5) ≤ 12 by omega) (fun t3_1 => ?_) (fun t3_1 => ?_))
    · have t3_1 : (0 ≤ a ∧ a < (N 5)) ∧ (0 ≤ b ∧ b < (N 5)) ∧ ¬ a = b := t3_1
      show Aj γ mX8_mends d 0 0 Post 6 [(0, vA 0), (1, vI a), (2, vI b), (3, vI v)] [vI 1] (mk h τ)
      refine a_if_eq (tgt := 20) dX8_mends_6 (by decide) (fun c => absurd c (by decide)) (fun _ => ?_)
      refine a_iload_n (j := 3) dX8_mends_9 rfl rfl ?_
      refine a_iconst dX8_mends_10 ⟨by decide, by decide⟩ ?_
      refine a_sipush dX8_mends_11 ⟨by decide, by decide, by decide⟩ ?_
      refine a_callS (d' := d - 1) (mc' := 0) (ms' := 0) (mc1 := 0) (ms1 := 0) (st := []) [vI v, vI 1, vI 10000] dX8_mends_14 mwX8_within lkX8_68 rfl (Nat.le_of_ble_eq_true rfl) (by omega) rfl rfl (c_X8_within  (by omega)    (fun t14_2 => ?_) (fun t14_2 => ?_))
      · have t14_2 : 1 ≤ v ∧ v ≤ 10000 := t14_2
        show Aj γ mX8_mends d 0 0 Post 17 [(0, vA 0), (1, vI a), (2, vI b), (3, vI v)] [vI 1] (mk h τ)
        refine a_if_ne (tgt := 23) dX8_mends_17 (by decide) (fun _ => ?_) (fun c => absurd c (by decide))
        exact absurd (by omega) hin
      · have t14_2 : ¬ (1 ≤ v ∧ v ≤ 10000) := t14_2
        show Aj γ mX8_mends d 0 0 Post 17 [(0, vA 0), (1, vI a), (2, vI b), (3, vI v)] [vI 0] (mk h τ)
        refine a_if_ne (tgt := 23) dX8_mends_17 (by decide) (fun c => absurd c (by decide)) (fun _ => ?_)
        refine a_ldc (z := (-1000000001)) dX8_mends_20 kwX8_72 ⟨by decide, by decide, by decide⟩ ?_
        exact a_iret dX8_mends_22 rfl (post_v (kQ h Fr_r hC) (by unfold vMends; rw [if_neg hin]))
    · have t3_1 : ¬ ((0 ≤ a ∧ a < (N 5)) ∧ (0 ≤ b ∧ b < (N 5)) ∧ ¬ a = b) := t3_1
      show Aj γ mX8_mends d 0 0 Post 6 [(0, vA 0), (1, vI a), (2, vI b), (3, vI v)] [vI 0] (mk h τ)
      refine a_if_eq (tgt := 20) dX8_mends_6 (by decide) (fun _ => ?_) (fun c => absurd c (by decide))
      refine a_ldc (z := (-1000000001)) dX8_mends_20 kwX8_72 ⟨by decide, by decide, by decide⟩ ?_
      exact a_iret dX8_mends_22 rfl (post_v (kQ h Fr_r hC) (by unfold vMends; rw [if_neg hin]))
set_option maxHeartbeats 8000000 in
theorem q_X9_mends {γ : GT} {d : Nat} {a b v : Int} {N : Nat → Int} {h : Nat → Nat → Int} {τ : List AC} {Post : Option AV → List AC → Prop} (hd : 12 ≤ d) (hN : h 124 = N) (hX : NX N) (hC : RC h N) (kQ : ∀ h', Fr [123, 127, 128, 129, 130, 131, 132, 133, 134, 135, 136, 143, 144] h h' → K3 h h' → RC h' N → Post (some (vI (vMends N a b v))) (mk h' τ)) : Cj γ mX9_mends d 0 0 [vA 123, vI a, vI b, vI v] (mk h τ) Post := by
  have hsc := hX.1.1
  have hs1 := hsc.1
  have hs2 := hsc.2.1
  have hs3 := hsc.2.2.1
  have hs4 := hsc.2.2.2.1
  have hs5 := hsc.2.2.2.2
  have hx7 := hX.2.1
  have hx8 := hX.2.2.2.1
  obtain ⟨T, hTe⟩ : ∃ T, tt N = T := ⟨_, rfl⟩
  have hT : tOK T := hTe ▸ tt_OK hX.1
  have hNT : NTr N T := hTe ▸ NT_tt hX.1
  have e02 : N 5 = T 0 2 := hNT.1.2.2.1
  have e03 : N 4 = T 0 3 := hNT.1.2.2.2
  by_cases hin : ((0 ≤ a ∧ a < N 5) ∧ (0 ≤ b ∧ b < N 5) ∧ ¬ a = b) ∧ (1 ≤ v ∧ v ≤ 10000)
  · obtain ⟨an, rfl⟩ : ∃ an : Nat, a = (an : Int) := ⟨Int.toNat a, by omega⟩
    obtain ⟨bn, rfl⟩ : ∃ bn : Nat, b = (bn : Int) := ⟨Int.toNat b, by omega⟩
    have ea := hNT.2 an (by omega)
    have eb := hNT.2 bn (by omega)
    have ea1 := ea.2.1
    have eb1 := eb.1
    refine c_of (by decide) (Nat.le_of_ble_eq_true rfl) ?_
    show Aj γ mX9_mends d 0 0 Post 0 [(0, vA 123), (1, vI ((an : Nat) : Int)), (2, vI ((bn : Nat) : Int)), (3, vI v)] [] (mk h τ)
    refine a_aload_n (j := 0) dX9_mends_0 rfl rfl (Nat.le_of_ble_eq_true rfl) ?_
    refine a_iload_n (j := 1) dX9_mends_1 rfl rfl ?_
    refine a_iload_n (j := 2) dX9_mends_2 rfl rfl ?_
    refine b_callV (d' := d - 1) (mc' := 0) (ms' := 0) (mc1 := 0) (ms1 := 0) (st := []) (b := 123) [vI ((an : Nat) : Int), vI ((bn : Nat) : Int)] dX9_mends_3 mwX9_areTwo lkX9_182 (by decide) rfl rc_X9 rfl (Nat.le_of_ble_eq_true rfl) (by omega) rfl rfl (c_X9_areTwo (v1 := (N 5)) (by omega)  (congrFun hN _) (show 0 ≤ (N 5) ∧ (N 5) ≤ 12 by omega) (fun t3_1 => ?_) (fun t3_1 => ?_))
    · have t3_1 : (0 ≤ ((an : Nat) : Int) ∧ ((an : Nat) : Int) < (N 5)) ∧ (0 ≤ ((bn : Nat) : Int) ∧ ((bn : Nat) : Int) < (N 5)) ∧ ¬ ((an : Nat) : Int) = ((bn : Nat) : Int) := t3_1
      show Aj γ mX9_mends d 0 0 Post 6 [(0, vA 123), (1, vI ((an : Nat) : Int)), (2, vI ((bn : Nat) : Int)), (3, vI v)] [vI 1] (mk h τ)
      refine a_if_eq (tgt := 20) dX9_mends_6 (by decide) (fun c => absurd c (by decide)) (fun _ => ?_)
      refine a_iload_n (j := 3) dX9_mends_9 rfl rfl ?_
      refine a_iconst dX9_mends_10 ⟨by decide, by decide⟩ ?_
      refine a_sipush dX9_mends_11 ⟨by decide, by decide, by decide⟩ ?_
      refine a_callS (d' := d - 1) (mc' := 0) (ms' := 0) (mc1 := 0) (ms1 := 0) (st := []) [vI v, vI 1, vI 10000] dX9_mends_14 mwX9_in lkX9_103 rfl (Nat.le_of_ble_eq_true rfl) (by omega) rfl rfl (c_X9_in  (by omega)    (fun t14_2 => ?_) (fun t14_2 => ?_))
      · have t14_2 : 1 ≤ v ∧ v ≤ 10000 := t14_2
        show Aj γ mX9_mends d 0 0 Post 17 [(0, vA 123), (1, vI ((an : Nat) : Int)), (2, vI ((bn : Nat) : Int)), (3, vI v)] [vI 1] (mk h τ)
        refine a_if_ne (tgt := 23) dX9_mends_17 (by decide) (fun _ => ?_) (fun c => absurd c (by decide))
        refine a_aload_n (j := 0) dX9_mends_23 rfl rfl (Nat.le_of_ble_eq_true rfl) ?_
        refine a_iload_n (j := 1) dX9_mends_24 rfl rfl ?_
        refine a_iconst dX9_mends_25 ⟨by decide, by decide⟩ ?_
        refine b_callV (d' := d - 1) (mc' := 0) (ms' := 0) (mc1 := 0) (ms1 := 0) (st := []) (b := 123) [vI ((an : Nat) : Int), vI 2] dX9_mends_26 mwX9_of lkX9_107 (by decide) rfl rc_X9 rfl (Nat.le_of_ble_eq_true rfl) (by omega) rfl rfl (c_X9_of (v1 := (N (17 + 11 * an))) (by omega)  ((congrArg (h 124) (show (Int.toNat ((15 + (11 * ((an : Nat) : Int))) + 2)) = (17 + 11 * an) by omega)).trans (congrFun hN _)) (show 0 ≤ ((an : Nat) : Int) ∧ ((an : Nat) : Int) ≤ 11 ∧ 0 ≤ 2 ∧ 2 ≤ 10 by omega) ?_)
        show Aj γ mX9_mends d 0 0 Post 29 [(0, vA 123), (1, vI ((an : Nat) : Int)), (2, vI ((bn : Nat) : Int)), (3, vI v)] [vI (N (17 + 11 * an))] (mk h τ)
        refine a_aload_n (j := 0) dX9_mends_29 rfl rfl (Nat.le_of_ble_eq_true rfl) ?_
        refine a_iload_n (j := 2) dX9_mends_30 rfl rfl ?_
        refine a_iconst dX9_mends_31 ⟨by decide, by decide⟩ ?_
        refine b_callV (d' := d - 1) (mc' := 0) (ms' := 0) (mc1 := 0) (ms1 := 0) (st := [vI (N (17 + 11 * an))]) (b := 123) [vI ((bn : Nat) : Int), vI 1] dX9_mends_32 mwX9_of lkX9_107 (by decide) rfl rc_X9 rfl (Nat.le_of_ble_eq_true rfl) (by omega) rfl rfl (c_X9_of (v1 := (N (16 + 11 * bn))) (by omega)  ((congrArg (h 124) (show (Int.toNat ((15 + (11 * ((bn : Nat) : Int))) + 1)) = (16 + 11 * bn) by omega)).trans (congrFun hN _)) (show 0 ≤ ((bn : Nat) : Int) ∧ ((bn : Nat) : Int) ≤ 11 ∧ 0 ≤ 1 ∧ 1 ≤ 10 by omega) ?_)
        show Aj γ mX9_mends d 0 0 Post 35 [(0, vA 123), (1, vI ((an : Nat) : Int)), (2, vI ((bn : Nat) : Int)), (3, vI v)] [vI (N (16 + 11 * bn)), vI (N (17 + 11 * an))] (mk h τ)
        refine a_icmp_eq (tgt := 41) dX9_mends_35 (by decide) (fun c35_3 => ?_) (fun c35_3 => ?_)
        · refine a_aload_n (j := 0) dX9_mends_41 rfl rfl (Nat.le_of_ble_eq_true rfl) ?_
          refine b_callV (d' := d - 1) (mc' := 0) (ms' := 0) (mc1 := 0) (ms1 := 0) (st := []) (b := 123) [] dX9_mends_42 mwX9_learns lkX9_155 (by decide) rfl rc_X9 rfl (Nat.le_of_ble_eq_true rfl) (by omega) rfl rfl (k_learns (N := N) (by omega) hN hX.1 hC (fun h7 hF7 k7 c7 t7 g7 => ?_))
          rw [hTe] at t7 g7
          show Aj γ mX9_mends d 0 0 Post 45 [(0, vA 123), (1, vI ((an : Nat) : Int)), (2, vI ((bn : Nat) : Int)), (3, vI v)] [] (mk h7 τ)
          refine a_iconst dX9_mends_45 ⟨by decide, by decide⟩ ?_
          refine a_istore (lv' := [(4, vI 0), (0, vA 123), (1, vI ((an : Nat) : Int)), (2, vI ((bn : Nat) : Int)), (3, vI v)]) dX9_mends_46 (by decide) rfl ?_
          exact a_lv (lv' := [(4, vI ((0 : Nat) : Int)), (0, vA 123), (1, vI ((an : Nat) : Int)), (2, vI ((bn : Nat) : Int)), (3, vI v)]) (by intro q hq; simp only [List.mem_cons, List.not_mem_nil, or_false] at hq ⊢; rcases hq with rfl | rfl | rfl | rfl | rfl <;> simp) (l_mends9 (h := h7) (T := T) (by omega) hT t7 (by omega) (by omega) (post_v (kQ h7 hF7 k7 c7) (by unfold vMends; simp only [Int.toNat_natCast]; rw [if_pos (by omega), if_pos (by omega), hTe])) 1001 0 (by omega) (by omega) rfl)
        · refine a_ldc (z := (-1000000002)) dX9_mends_38 kwX9_185 ⟨by decide, by decide, by decide⟩ ?_
          exact a_iret dX9_mends_40 rfl (post_v (kQ h Fr_r K3_r hC) (by unfold vMends; simp only [Int.toNat_natCast]; rw [if_pos (by omega), if_neg (by omega)]))
      · have t14_2 : ¬ (1 ≤ v ∧ v ≤ 10000) := t14_2
        show Aj γ mX9_mends d 0 0 Post 17 [(0, vA 123), (1, vI ((an : Nat) : Int)), (2, vI ((bn : Nat) : Int)), (3, vI v)] [vI 0] (mk h τ)
        refine a_if_ne (tgt := 23) dX9_mends_17 (by decide) (fun c => absurd c (by decide)) (fun _ => ?_)
        refine a_ldc (z := (-1000000001)) dX9_mends_20 kwX9_146 ⟨by decide, by decide, by decide⟩ ?_
        exact a_iret dX9_mends_22 rfl (absurd hin (by omega))
    · have t3_1 : ¬ ((0 ≤ ((an : Nat) : Int) ∧ ((an : Nat) : Int) < (N 5)) ∧ (0 ≤ ((bn : Nat) : Int) ∧ ((bn : Nat) : Int) < (N 5)) ∧ ¬ ((an : Nat) : Int) = ((bn : Nat) : Int)) := t3_1
      show Aj γ mX9_mends d 0 0 Post 6 [(0, vA 123), (1, vI ((an : Nat) : Int)), (2, vI ((bn : Nat) : Int)), (3, vI v)] [vI 0] (mk h τ)
      refine a_if_eq (tgt := 20) dX9_mends_6 (by decide) (fun _ => ?_) (fun c => absurd c (by decide))
      refine a_ldc (z := (-1000000001)) dX9_mends_20 kwX9_146 ⟨by decide, by decide, by decide⟩ ?_
      exact a_iret dX9_mends_22 rfl (absurd hin (by omega))
  · refine c_of (by decide) (Nat.le_of_ble_eq_true rfl) ?_
    show Aj γ mX9_mends d 0 0 Post 0 [(0, vA 123), (1, vI a), (2, vI b), (3, vI v)] [] (mk h τ)
    refine a_aload_n (j := 0) dX9_mends_0 rfl rfl (Nat.le_of_ble_eq_true rfl) ?_
    refine a_iload_n (j := 1) dX9_mends_1 rfl rfl ?_
    refine a_iload_n (j := 2) dX9_mends_2 rfl rfl ?_
    refine b_callV (d' := d - 1) (mc' := 0) (ms' := 0) (mc1 := 0) (ms1 := 0) (st := []) (b := 123) [vI a, vI b] dX9_mends_3 mwX9_areTwo lkX9_182 (by decide) rfl rc_X9 rfl (Nat.le_of_ble_eq_true rfl) (by omega) rfl rfl (c_X9_areTwo (v1 := (N 5)) (by omega)  (congrFun hN _) (show 0 ≤ (N 5) ∧ (N 5) ≤ 12 by omega) (fun t3_1 => ?_) (fun t3_1 => ?_))
    · have t3_1 : (0 ≤ a ∧ a < (N 5)) ∧ (0 ≤ b ∧ b < (N 5)) ∧ ¬ a = b := t3_1
      show Aj γ mX9_mends d 0 0 Post 6 [(0, vA 123), (1, vI a), (2, vI b), (3, vI v)] [vI 1] (mk h τ)
      refine a_if_eq (tgt := 20) dX9_mends_6 (by decide) (fun c => absurd c (by decide)) (fun _ => ?_)
      refine a_iload_n (j := 3) dX9_mends_9 rfl rfl ?_
      refine a_iconst dX9_mends_10 ⟨by decide, by decide⟩ ?_
      refine a_sipush dX9_mends_11 ⟨by decide, by decide, by decide⟩ ?_
      refine a_callS (d' := d - 1) (mc' := 0) (ms' := 0) (mc1 := 0) (ms1 := 0) (st := []) [vI v, vI 1, vI 10000] dX9_mends_14 mwX9_in lkX9_103 rfl (Nat.le_of_ble_eq_true rfl) (by omega) rfl rfl (c_X9_in  (by omega)    (fun t14_2 => ?_) (fun t14_2 => ?_))
      · have t14_2 : 1 ≤ v ∧ v ≤ 10000 := t14_2
        show Aj γ mX9_mends d 0 0 Post 17 [(0, vA 123), (1, vI a), (2, vI b), (3, vI v)] [vI 1] (mk h τ)
        refine a_if_ne (tgt := 23) dX9_mends_17 (by decide) (fun _ => ?_) (fun c => absurd c (by decide))
        exact absurd (by omega) hin
      · have t14_2 : ¬ (1 ≤ v ∧ v ≤ 10000) := t14_2
        show Aj γ mX9_mends d 0 0 Post 17 [(0, vA 123), (1, vI a), (2, vI b), (3, vI v)] [vI 0] (mk h τ)
        refine a_if_ne (tgt := 23) dX9_mends_17 (by decide) (fun c => absurd c (by decide)) (fun _ => ?_)
        refine a_ldc (z := (-1000000001)) dX9_mends_20 kwX9_146 ⟨by decide, by decide, by decide⟩ ?_
        exact a_iret dX9_mends_22 rfl (post_v (kQ h Fr_r K3_r hC) (by unfold vMends; rw [if_neg hin]))
    · have t3_1 : ¬ ((0 ≤ a ∧ a < (N 5)) ∧ (0 ≤ b ∧ b < (N 5)) ∧ ¬ a = b) := t3_1
      show Aj γ mX9_mends d 0 0 Post 6 [(0, vA 123), (1, vI a), (2, vI b), (3, vI v)] [vI 0] (mk h τ)
      refine a_if_eq (tgt := 20) dX9_mends_6 (by decide) (fun _ => ?_) (fun c => absurd c (by decide))
      refine a_ldc (z := (-1000000001)) dX9_mends_20 kwX9_146 ⟨by decide, by decide, by decide⟩ ?_
      exact a_iret dX9_mends_22 rfl (post_v (kQ h Fr_r K3_r hC) (by unfold vMends; rw [if_neg hin]))
set_option maxHeartbeats 8000000 in
theorem q_X8_never {γ : GT} {d : Nat} {q : Int} {N J : Nat → Int} {h : Nat → Nat → Int} {τ : List AC} {Post : Option AV → List AC → Prop} (hd : 12 ≤ d) (hR : WR h τ 1 N) (hX : NX N) (hC : CC h N J) (kQ : ∀ h', Fr [63, 64, 65, 66, 67, 68, 69, 70, 71, 72, 73, 74, 75, 76, 77, 78, 79, 80, 81, 82, 83] h h' → CC h' N J → Post (some (vI (vNever N q))) (mk h' τ)) : Cj γ mX8_never d 0 0 [vA 0, vI q] (mk h τ) Post := by
  have hsc := hX.1.1
  have hs1 := hsc.1
  have hs2 := hsc.2.1
  have hs3 := hsc.2.2.1
  have hs4 := hsc.2.2.2.1
  have hs5 := hsc.2.2.2.2
  have hx7 := hX.2.1
  have hx8 := hX.2.2.2.1
  obtain ⟨T, hTe⟩ : ∃ T, tt N = T := ⟨_, rfl⟩
  have hT : tOK T := hTe ▸ tt_OK hX.1
  have hNT : NTr N T := hTe ▸ NT_tt hX.1
  have e02 : N 5 = T 0 2 := hNT.1.2.2.1
  have e03 : N 4 = T 0 3 := hNT.1.2.2.2
  by_cases hin : 0 ≤ q ∧ q ≤ 1
  · skip
    obtain ⟨n, hn⟩ : ∃ n : Nat, N 5 = (n : Int) := ⟨Int.toNat (N 5), by omega⟩
    refine c_of (by decide) (Nat.le_of_ble_eq_true rfl) ?_
    show Aj γ mX8_never d 0 0 Post 0 [(0, vA 0), (1, vI q)] [] (mk h τ)
    refine a_iload_n (j := 1) dX8_never_0 rfl rfl ?_
    refine a_iconst dX8_never_1 ⟨by decide, by decide⟩ ?_
    refine a_iconst dX8_never_2 ⟨by decide, by decide⟩ ?_
    refine a_callS (d' := d - 1) (mc' := 0) (ms' := 0) (mc1 := 0) (ms1 := 0) (st := []) [vI q, vI 0, vI 1] dX8_never_3 mwX8_within lkX8_68 rfl (Nat.le_of_ble_eq_true rfl) (by omega) rfl rfl (c_X8_within  (by omega)    (fun t3_1 => ?_) (fun t3_1 => ?_))
    · have t3_1 : 0 ≤ q ∧ q ≤ 1 := t3_1
      show Aj γ mX8_never d 0 0 Post 6 [(0, vA 0), (1, vI q)] [vI 1] (mk h τ)
      refine a_if_ne (tgt := 12) dX8_never_6 (by decide) (fun _ => ?_) (fun c => absurd c (by decide))
      refine a_aload_n (j := 0) dX8_never_12 rfl rfl (Nat.le_of_ble_eq_true rfl) ?_
      refine b_getp (a := 0) (p := 63) dX8_never_13 fwX8_24 (by decide) rfl (by decide) rfl rfl ?_
      refine a_aload_n (j := 0) dX8_never_16 rfl rfl (Nat.le_of_ble_eq_true rfl) ?_
      refine b_getp (a := 0) (p := 1) dX8_never_17 fwX8_14 (by decide) rfl (by decide) rfl rfl ?_
      refine b_callV (d' := d - 1) (mc' := 0) (ms' := 0) (mc1 := 0) (ms1 := 0) (st := []) (b := 63) [vA 1] dX8_never_20 mwX5_refresh lkX8_88 (by decide) rfl rc_X5 rfl (Nat.le_of_ble_eq_true rfl) (by omega) rfl rfl (k_refresh (N := N) (J := J) (by omega) hR hX.1 hC (fun h7 hF7 c7 t7 => ?_))
      rw [hTe] at t7
      show Aj γ mX8_never d 0 0 Post 23 [(0, vA 0), (1, vI q)] [] (mk h7 τ)
      refine a_iconst dX8_never_23 ⟨by decide, by decide⟩ ?_
      refine a_istore_n (lv' := [(2, vI 0), (0, vA 0), (1, vI q)]) dX8_never_24 rfl (by decide) rfl ?_
      refine a_ldc (z := (-1000000005)) dX8_never_25 kwX8_159 ⟨by decide, by decide, by decide⟩ ?_
      refine a_istore_n (lv' := [(3, vI (-1000000005)), (2, vI 0), (0, vA 0), (1, vI q)]) dX8_never_27 rfl (by decide) rfl ?_
      refine a_iconst dX8_never_28 ⟨by decide, by decide⟩ ?_
      refine a_istore (lv' := [(4, vI 0), (3, vI (-1000000005)), (2, vI 0), (0, vA 0), (1, vI q)]) dX8_never_29 (by decide) rfl ?_
      exact a_lv (lv' := [(4, vI ((0 : Nat) : Int)), (2, vI 0), (3, vI (-1000000005)), (0, vA 0), (1, vI q)]) (by intro q hq; simp only [List.mem_cons, List.not_mem_nil, or_false] at hq ⊢; rcases hq with rfl | rfl | rfl | rfl | rfl <;> simp) (l_nvAX (h := h7) (T := T) (n := n) (by omega) hT t7 (by omega) ((Fr_v hF7 (by decide)).trans (hR.1.2.1.trans hn)) (post_v (kQ h7 hF7 c7) (by unfold vNever; rw [if_pos hin, hTe, show Int.toNat (N 5) = n by omega])) (n + 1) 0 0 (-1000000005) (by omega) (by omega) rfl ⟨by omega, by omega, Or.inl ⟨rfl, rfl⟩⟩)
    · have t3_1 : ¬ (0 ≤ q ∧ q ≤ 1) := t3_1
      show Aj γ mX8_never d 0 0 Post 6 [(0, vA 0), (1, vI q)] [vI 0] (mk h τ)
      refine a_if_ne (tgt := 12) dX8_never_6 (by decide) (fun c => absurd c (by decide)) (fun _ => ?_)
      refine a_ldc (z := (-1000000001)) dX8_never_9 kwX8_72 ⟨by decide, by decide, by decide⟩ ?_
      exact a_iret dX8_never_11 rfl (absurd hin (by omega))
  · refine c_of (by decide) (Nat.le_of_ble_eq_true rfl) ?_
    show Aj γ mX8_never d 0 0 Post 0 [(0, vA 0), (1, vI q)] [] (mk h τ)
    refine a_iload_n (j := 1) dX8_never_0 rfl rfl ?_
    refine a_iconst dX8_never_1 ⟨by decide, by decide⟩ ?_
    refine a_iconst dX8_never_2 ⟨by decide, by decide⟩ ?_
    refine a_callS (d' := d - 1) (mc' := 0) (ms' := 0) (mc1 := 0) (ms1 := 0) (st := []) [vI q, vI 0, vI 1] dX8_never_3 mwX8_within lkX8_68 rfl (Nat.le_of_ble_eq_true rfl) (by omega) rfl rfl (c_X8_within  (by omega)    (fun t3_1 => ?_) (fun t3_1 => ?_))
    · have t3_1 : 0 ≤ q ∧ q ≤ 1 := t3_1
      show Aj γ mX8_never d 0 0 Post 6 [(0, vA 0), (1, vI q)] [vI 1] (mk h τ)
      refine a_if_ne (tgt := 12) dX8_never_6 (by decide) (fun _ => ?_) (fun c => absurd c (by decide))
      exact absurd (by omega) hin
    · have t3_1 : ¬ (0 ≤ q ∧ q ≤ 1) := t3_1
      show Aj γ mX8_never d 0 0 Post 6 [(0, vA 0), (1, vI q)] [vI 0] (mk h τ)
      refine a_if_ne (tgt := 12) dX8_never_6 (by decide) (fun c => absurd c (by decide)) (fun _ => ?_)
      refine a_ldc (z := (-1000000001)) dX8_never_9 kwX8_72 ⟨by decide, by decide, by decide⟩ ?_
      exact a_iret dX8_never_11 rfl (post_v (kQ h Fr_r hC) (by unfold vNever; rw [if_neg hin]))
set_option maxHeartbeats 8000000 in
theorem q_X9_never {γ : GT} {d : Nat} {q : Int} {N : Nat → Int} {h : Nat → Nat → Int} {τ : List AC} {Post : Option AV → List AC → Prop} (hd : 12 ≤ d) (hN : h 124 = N) (hX : NX N) (hC : RC h N) (kQ : ∀ h', Fr [123, 127, 128, 129, 130, 131, 132, 133, 134, 135, 136, 143, 144] h h' → K3 h h' → RC h' N → Post (some (vI (vNever N q))) (mk h' τ)) : Cj γ mX9_never d 0 0 [vA 123, vI q] (mk h τ) Post := by
  have hsc := hX.1.1
  have hs1 := hsc.1
  have hs2 := hsc.2.1
  have hs3 := hsc.2.2.1
  have hs4 := hsc.2.2.2.1
  have hs5 := hsc.2.2.2.2
  have hx7 := hX.2.1
  have hx8 := hX.2.2.2.1
  obtain ⟨T, hTe⟩ : ∃ T, tt N = T := ⟨_, rfl⟩
  have hT : tOK T := hTe ▸ tt_OK hX.1
  have hNT : NTr N T := hTe ▸ NT_tt hX.1
  have e02 : N 5 = T 0 2 := hNT.1.2.2.1
  have e03 : N 4 = T 0 3 := hNT.1.2.2.2
  by_cases hin : 0 ≤ q ∧ q ≤ 1
  · skip
    obtain ⟨n, hn⟩ : ∃ n : Nat, N 5 = (n : Int) := ⟨Int.toNat (N 5), by omega⟩
    refine c_of (by decide) (Nat.le_of_ble_eq_true rfl) ?_
    show Aj γ mX9_never d 0 0 Post 0 [(0, vA 123), (1, vI q)] [] (mk h τ)
    refine a_iload_n (j := 1) dX9_never_0 rfl rfl ?_
    refine a_iconst dX9_never_1 ⟨by decide, by decide⟩ ?_
    refine a_iconst dX9_never_2 ⟨by decide, by decide⟩ ?_
    refine a_callS (d' := d - 1) (mc' := 0) (ms' := 0) (mc1 := 0) (ms1 := 0) (st := []) [vI q, vI 0, vI 1] dX9_never_3 mwX9_in lkX9_103 rfl (Nat.le_of_ble_eq_true rfl) (by omega) rfl rfl (c_X9_in  (by omega)    (fun t3_1 => ?_) (fun t3_1 => ?_))
    · have t3_1 : 0 ≤ q ∧ q ≤ 1 := t3_1
      show Aj γ mX9_never d 0 0 Post 6 [(0, vA 123), (1, vI q)] [vI 1] (mk h τ)
      refine a_if_ne (tgt := 12) dX9_never_6 (by decide) (fun _ => ?_) (fun c => absurd c (by decide))
      refine a_aload_n (j := 0) dX9_never_12 rfl rfl (Nat.le_of_ble_eq_true rfl) ?_
      refine b_callV (d' := d - 1) (mc' := 0) (ms' := 0) (mc1 := 0) (ms1 := 0) (st := []) (b := 123) [] dX9_never_13 mwX9_learns lkX9_155 (by decide) rfl rc_X9 rfl (Nat.le_of_ble_eq_true rfl) (by omega) rfl rfl (k_learns (N := N) (by omega) hN hX.1 hC (fun h7 hF7 k7 c7 t7 g7 => ?_))
      rw [hTe] at t7 g7
      show Aj γ mX9_never d 0 0 Post 16 [(0, vA 123), (1, vI q)] [] (mk h7 τ)
      refine a_iconst dX9_never_16 ⟨by decide, by decide⟩ ?_
      refine a_istore_n (lv' := [(2, vI 0), (0, vA 123), (1, vI q)]) dX9_never_17 rfl (by decide) rfl ?_
      refine a_ldc (z := (-1000000005)) dX9_never_18 kwX9_115 ⟨by decide, by decide, by decide⟩ ?_
      refine a_istore_n (lv' := [(3, vI (-1000000005)), (2, vI 0), (0, vA 123), (1, vI q)]) dX9_never_20 rfl (by decide) rfl ?_
      refine a_iconst dX9_never_21 ⟨by decide, by decide⟩ ?_
      refine a_istore (lv' := [(4, vI 0), (3, vI (-1000000005)), (2, vI 0), (0, vA 123), (1, vI q)]) dX9_never_22 (by decide) rfl ?_
      exact a_lv (lv' := [(4, vI ((0 : Nat) : Int)), (2, vI 0), (3, vI (-1000000005)), (0, vA 123), (1, vI q)]) (by intro q hq; simp only [List.mem_cons, List.not_mem_nil, or_false] at hq ⊢; rcases hq with rfl | rfl | rfl | rfl | rfl <;> simp) (l_nvAR (h := h7) (T := T) (n := n) (by omega) hT t7 (by omega) (post_v (kQ h7 hF7 k7 c7) (by unfold vNever; rw [if_pos hin, hTe, show Int.toNat (N 5) = n by omega])) (n + 1) 0 0 (-1000000005) (by omega) (by omega) rfl ⟨by omega, by omega, Or.inl ⟨rfl, rfl⟩⟩)
    · have t3_1 : ¬ (0 ≤ q ∧ q ≤ 1) := t3_1
      show Aj γ mX9_never d 0 0 Post 6 [(0, vA 123), (1, vI q)] [vI 0] (mk h τ)
      refine a_if_ne (tgt := 12) dX9_never_6 (by decide) (fun c => absurd c (by decide)) (fun _ => ?_)
      refine a_ldc (z := (-1000000001)) dX9_never_9 kwX9_146 ⟨by decide, by decide, by decide⟩ ?_
      exact a_iret dX9_never_11 rfl (absurd hin (by omega))
  · refine c_of (by decide) (Nat.le_of_ble_eq_true rfl) ?_
    show Aj γ mX9_never d 0 0 Post 0 [(0, vA 123), (1, vI q)] [] (mk h τ)
    refine a_iload_n (j := 1) dX9_never_0 rfl rfl ?_
    refine a_iconst dX9_never_1 ⟨by decide, by decide⟩ ?_
    refine a_iconst dX9_never_2 ⟨by decide, by decide⟩ ?_
    refine a_callS (d' := d - 1) (mc' := 0) (ms' := 0) (mc1 := 0) (ms1 := 0) (st := []) [vI q, vI 0, vI 1] dX9_never_3 mwX9_in lkX9_103 rfl (Nat.le_of_ble_eq_true rfl) (by omega) rfl rfl (c_X9_in  (by omega)    (fun t3_1 => ?_) (fun t3_1 => ?_))
    · have t3_1 : 0 ≤ q ∧ q ≤ 1 := t3_1
      show Aj γ mX9_never d 0 0 Post 6 [(0, vA 123), (1, vI q)] [vI 1] (mk h τ)
      refine a_if_ne (tgt := 12) dX9_never_6 (by decide) (fun _ => ?_) (fun c => absurd c (by decide))
      exact absurd (by omega) hin
    · have t3_1 : ¬ (0 ≤ q ∧ q ≤ 1) := t3_1
      show Aj γ mX9_never d 0 0 Post 6 [(0, vA 123), (1, vI q)] [vI 0] (mk h τ)
      refine a_if_ne (tgt := 12) dX9_never_6 (by decide) (fun c => absurd c (by decide)) (fun _ => ?_)
      refine a_ldc (z := (-1000000001)) dX9_never_9 kwX9_146 ⟨by decide, by decide, by decide⟩ ?_
      exact a_iret dX9_never_11 rfl (post_v (kQ h Fr_r K3_r hC) (by unfold vNever; rw [if_neg hin]))
set_option maxHeartbeats 8000000 in
theorem q_X8_judge {γ : GT} {d : Nat}  {N J : Nat → Int} {h : Nat → Nat → Int} {τ : List AC} {Post : Option AV → List AC → Prop} (hd : 12 ≤ d) (hR : WR h τ 1 N) (hX : NX N) (hC : CC h N J) (kQ : ∀ h', Fr [63, 64, 65, 66, 67, 68, 69, 70, 71, 72, 73, 74, 75, 76, 77, 78, 79, 80, 81, 82, 83] h h' → CC h' N J → Post (some (vI (vJudge N))) (mk h' τ)) : Cj γ mX8_judge d 0 0 [vA 0] (mk h τ) Post := by
  have hsc := hX.1.1
  have hs1 := hsc.1
  have hs2 := hsc.2.1
  have hs3 := hsc.2.2.1
  have hs4 := hsc.2.2.2.1
  have hs5 := hsc.2.2.2.2
  have hx7 := hX.2.1
  have hx8 := hX.2.2.2.1
  obtain ⟨T, hTe⟩ : ∃ T, tt N = T := ⟨_, rfl⟩
  have hT : tOK T := hTe ▸ tt_OK hX.1
  have hNT : NTr N T := hTe ▸ NT_tt hX.1
  have e02 : N 5 = T 0 2 := hNT.1.2.2.1
  have e03 : N 4 = T 0 3 := hNT.1.2.2.2
  refine c_of (by decide) (Nat.le_of_ble_eq_true rfl) ?_
  show Aj γ mX8_judge d 0 0 Post 0 [(0, vA 0)] [] (mk h τ)
  refine a_aload_n (j := 0) dX8_judge_0 rfl rfl (Nat.le_of_ble_eq_true rfl) ?_
  refine b_getp (a := 0) (p := 1) dX8_judge_1 fwX8_14 (by decide) rfl (by decide) rfl rfl ?_
  refine b_callV (d' := d - 1) (mc' := 0) (ms' := 0) (mc1 := 0) (ms1 := 0) (st := []) (b := 1) [] dX8_judge_4 mwX7_brokenPlace lkX8_186 (by decide) rfl rc_X7 rfl (Nat.le_of_ble_eq_true rfl) (by omega) rfl rfl (c_X7_brokenPlace (N := N) (by omega) hR hX ?_)
  show Aj γ mX8_judge d 0 0 Post 7 [(0, vA 0)] [vI (vJudge N)] (mk h τ)
  exact a_iret dX8_judge_7 rfl (post_v (kQ h Fr_r hC) (rfl))
theorem q_X9_judge {γ : GT} {d : Nat} {N : Nat → Int} {h : Nat → Nat → Int} {τ : List AC} {Post : Option AV → List AC → Prop} (hd : 12 ≤ d) (hN : h 124 = N) (hX : NX N) (hC : RC h N) (kQ : ∀ h', Fr [123, 127, 128, 129, 130, 131, 132, 133, 134, 135, 136, 143, 144] h h' → K3 h h' → RC h' N → Post (some (vI (vJudge N))) (mk h' τ)) : Cj γ mX9_judge d 0 0 [vA 123] (mk h τ) Post := c_X9_judge (by omega) hN hX (kQ h Fr_r K3_r hC)
set_option maxHeartbeats 8000000 in
theorem q_X8_plan {γ : GT} {d : Nat} {q : Int} {N J : Nat → Int} {h : Nat → Nat → Int} {τ : List AC} {Post : Option AV → List AC → Prop} (hd : 12 ≤ d) (hR : WR h τ 1 N) (hX : NX N) (hC : CC h N J) (kQ : ∀ h', Fr [63, 64, 65, 66, 67, 68, 69, 70, 71, 72, 73, 74, 75, 76, 77, 78, 79, 80, 81, 82, 83] h h' → CC h' N J → Post (some (vL (vPlan N q))) (mk h' τ)) : Cj γ mX8_plan d 0 0 [vA 0, vI q] (mk h τ) Post := by
  have hsc := hX.1.1
  have hs1 := hsc.1
  have hs2 := hsc.2.1
  have hs3 := hsc.2.2.1
  have hs4 := hsc.2.2.2.1
  have hs5 := hsc.2.2.2.2
  have hx7 := hX.2.1
  have hx8 := hX.2.2.2.1
  obtain ⟨T, hTe⟩ : ∃ T, tt N = T := ⟨_, rfl⟩
  have hT : tOK T := hTe ▸ tt_OK hX.1
  have hNT : NTr N T := hTe ▸ NT_tt hX.1
  have e02 : N 5 = T 0 2 := hNT.1.2.2.1
  have e03 : N 4 = T 0 3 := hNT.1.2.2.2
  by_cases hin : 0 ≤ q ∧ q ≤ 1
  · skip
    obtain ⟨n, hn⟩ : ∃ n : Nat, N 7 = (n : Int) := ⟨Int.toNat (N 7), by omega⟩
    have hpk : ∀ k : Nat, k < n → N (147 + k) = ((plK N k : Nat) : Int) ∧ ((plK N k : Nat) : Int) < T 0 2 := fun k hk => by have := hX.2.2.1 k (by omega); unfold plK; omega
    refine c_of (by decide) (Nat.le_of_ble_eq_true rfl) ?_
    show Aj γ mX8_plan d 0 0 Post 0 [(0, vA 0), (1, vI q)] [] (mk h τ)
    refine a_iload_n (j := 1) dX8_plan_0 rfl rfl ?_
    refine a_iconst dX8_plan_1 ⟨by decide, by decide⟩ ?_
    refine a_iconst dX8_plan_2 ⟨by decide, by decide⟩ ?_
    refine a_callS (d' := d - 1) (mc' := 0) (ms' := 0) (mc1 := 0) (ms1 := 0) (st := []) [vI q, vI 0, vI 1] dX8_plan_3 mwX8_within lkX8_68 rfl (Nat.le_of_ble_eq_true rfl) (by omega) rfl rfl (c_X8_within  (by omega)    (fun t3_1 => ?_) (fun t3_1 => ?_))
    · have t3_1 : 0 ≤ q ∧ q ≤ 1 := t3_1
      show Aj γ mX8_plan d 0 0 Post 6 [(0, vA 0), (1, vI q)] [vI 1] (mk h τ)
      refine a_if_ne (tgt := 13) dX8_plan_6 (by decide) (fun _ => ?_) (fun c => absurd c (by decide))
      refine a_aload_n (j := 0) dX8_plan_13 rfl rfl (Nat.le_of_ble_eq_true rfl) ?_
      refine b_getp (a := 0) (p := 1) dX8_plan_14 fwX8_14 (by decide) rfl (by decide) rfl rfl ?_
      refine b_callV (d' := d - 1) (mc' := 0) (ms' := 0) (mc1 := 0) (ms1 := 0) (st := []) (b := 1) [] dX8_plan_17 mwX7_brokenPlace lkX8_186 (by decide) rfl rc_X7 rfl (Nat.le_of_ble_eq_true rfl) (by omega) rfl rfl (c_X7_brokenPlace (N := N) (by omega) hR hX ?_)
      show Aj γ mX8_plan d 0 0 Post 20 [(0, vA 0), (1, vI q)] [vI (vJudge N)] (mk h τ)
      refine a_ldc (z := (-1000000005)) dX8_plan_20 kwX8_159 ⟨by decide, by decide, by decide⟩ ?_
      refine a_icmp_eq (tgt := 29) dX8_plan_22 (by decide) (fun c22_2 => ?_) (fun c22_2 => ?_)
      · refine a_aload_n (j := 0) dX8_plan_29 rfl rfl (Nat.le_of_ble_eq_true rfl) ?_
        refine b_getp (a := 0) (p := 1) dX8_plan_30 fwX8_14 (by decide) rfl (by decide) rfl rfl ?_
        refine b_get (a := 1) (z := N 7) (t := 0) dX8_plan_33 fwX8_180 (by decide) rfl (by decide) rfl rfl hR.1.2.2.2.1 ?_
        refine a_if_ne (tgt := 49) dX8_plan_36 (by decide) (fun c36_3 => ?_) (fun c36_3 => ?_)
        · refine a_aload_n (j := 0) dX8_plan_49 rfl rfl (Nat.le_of_ble_eq_true rfl) ?_
          refine b_getp (a := 0) (p := 63) dX8_plan_50 fwX8_24 (by decide) rfl (by decide) rfl rfl ?_
          refine a_aload_n (j := 0) dX8_plan_53 rfl rfl (Nat.le_of_ble_eq_true rfl) ?_
          refine b_getp (a := 0) (p := 1) dX8_plan_54 fwX8_14 (by decide) rfl (by decide) rfl rfl ?_
          refine b_callV (d' := d - 1) (mc' := 0) (ms' := 0) (mc1 := 0) (ms1 := 0) (st := []) (b := 63) [vA 1] dX8_plan_57 mwX5_refresh lkX8_88 (by decide) rfl rc_X5 rfl (Nat.le_of_ble_eq_true rfl) (by omega) rfl rfl (k_refresh (N := N) (J := J) (by omega) hR hX.1 hC (fun h7 hF7 c7 t7 => ?_))
          rw [hTe] at t7
          show Aj γ mX8_plan d 0 0 Post 60 [(0, vA 0), (1, vI q)] [] (mk h7 τ)
          refine a_aload_n (j := 0) dX8_plan_60 rfl rfl (Nat.le_of_ble_eq_true rfl) ?_
          refine b_getp (a := 0) (p := 63) dX8_plan_61 fwX8_24 (by decide) rfl (by decide) rfl rfl ?_
          refine a_aload_n (j := 0) dX8_plan_64 rfl rfl (Nat.le_of_ble_eq_true rfl) ?_
          refine b_getp (a := 0) (p := 1) dX8_plan_65 fwX8_14 (by decide) rfl (by decide) rfl rfl ?_
          refine a_iload_n (j := 1) dX8_plan_68 rfl rfl ?_
          refine a_iconst dX8_plan_69 ⟨by decide, by decide⟩ ?_
          refine a_icmp_ne (tgt := 77) dX8_plan_70 (by decide) (fun c70_4 => ?_) (fun c70_4 => ?_)
          · refine a_iconst dX8_plan_77 ⟨by decide, by decide⟩ ?_
            refine b_callV (d' := d - 1) (mc' := 0) (ms' := 0) (mc1 := 0) (ms1 := 0) (st := []) (b := 63) [vA 1, vI 0] dX8_plan_78 mwX5_planOf lkX8_194 (by decide) rfl rc_X5 rfl (Nat.le_of_ble_eq_true rfl) (by omega) rfl rfl (c_X5_planOf (T := T) (pl := plK N) (n := n) (q := q) (by omega) hT t7 ((Fr_v hF7 (by decide)).trans (hR.1.2.2.2.1.trans hn)) (by omega) (fun k hk => ⟨by rw [Fr_v hF7 (by decide)]; exact (hR.2.2.2.2.1 k (by omega)).trans (hpk k hk).1, (hpk k hk).2⟩) c7.2.2.1.2 (by omega) (fun h9 hF9 k9 y9 => ?_))
            show Aj γ mX8_plan d 0 0 Post 81 [(0, vA 0), (1, vI q)] [vL (plV T (plK N) n q)] (mk h9 τ)
            exact a_lret dX8_plan_81 rfl (post_l (kQ h9 (Fr_t hF7 (Fr_m (by decide) hF9)) (CC_w hF9 k9 y9 c7)) (by unfold vPlan; rw [if_pos hin, if_pos (by omega), if_neg (by omega), hTe, show Int.toNat (N 7) = n by omega]))
          · refine a_iconst dX8_plan_73 ⟨by decide, by decide⟩ ?_
            refine a_goto (tgt := 78) dX8_plan_74 (by decide) ?_
            refine b_callV (d' := d - 1) (mc' := 0) (ms' := 0) (mc1 := 0) (ms1 := 0) (st := []) (b := 63) [vA 1, vI 1] dX8_plan_78 mwX5_planOf lkX8_194 (by decide) rfl rc_X5 rfl (Nat.le_of_ble_eq_true rfl) (by omega) rfl rfl (c_X5_planOf (T := T) (pl := plK N) (n := n) (q := q) (by omega) hT t7 ((Fr_v hF7 (by decide)).trans (hR.1.2.2.2.1.trans hn)) (by omega) (fun k hk => ⟨by rw [Fr_v hF7 (by decide)]; exact (hR.2.2.2.2.1 k (by omega)).trans (hpk k hk).1, (hpk k hk).2⟩) c7.2.2.1.2 (by omega) (fun h9 hF9 k9 y9 => ?_))
            show Aj γ mX8_plan d 0 0 Post 81 [(0, vA 0), (1, vI q)] [vL (plV T (plK N) n q)] (mk h9 τ)
            exact a_lret dX8_plan_81 rfl (post_l (kQ h9 (Fr_t hF7 (Fr_m (by decide) hF9)) (CC_w hF9 k9 y9 c7)) (by unfold vPlan; rw [if_pos hin, if_pos (by omega), if_neg (by omega), hTe, show Int.toNat (N 7) = n by omega]))
        · refine a_iload_n (j := 1) dX8_plan_39 rfl rfl ?_
          refine a_if_ne (tgt := 47) dX8_plan_40 (by decide) (fun c40_5 => ?_) (fun c40_5 => ?_)
          · refine a_lconst (z := 0) dX8_plan_47 ⟨by decide, by decide, by decide⟩ ?_
            exact a_lret dX8_plan_48 rfl (post_l (kQ h Fr_r hC) (by unfold vPlan; rw [if_pos hin, if_pos (by omega), if_pos (by omega), if_neg (by omega)]))
          · refine a_lconst (z := 1) dX8_plan_43 ⟨by decide, by decide, by decide⟩ ?_
            refine a_goto (tgt := 48) dX8_plan_44 (by decide) ?_
            exact a_lret dX8_plan_48 rfl (post_l (kQ h Fr_r hC) (by unfold vPlan; rw [if_pos hin, if_pos (by omega), if_pos (by omega), if_pos (by omega)]))
      · refine a_ldc2 (z := (-1000000002)) dX8_plan_25 kwX8_192 ⟨by decide, by decide, by decide⟩ ?_
        exact a_lret dX8_plan_28 rfl (post_l (kQ h Fr_r hC) (by unfold vPlan; rw [if_pos hin, if_neg (by omega)]))
    · have t3_1 : ¬ (0 ≤ q ∧ q ≤ 1) := t3_1
      show Aj γ mX8_plan d 0 0 Post 6 [(0, vA 0), (1, vI q)] [vI 0] (mk h τ)
      refine a_if_ne (tgt := 13) dX8_plan_6 (by decide) (fun c => absurd c (by decide)) (fun _ => ?_)
      refine a_ldc2 (z := (-1000000001)) dX8_plan_9 kwX8_190 ⟨by decide, by decide, by decide⟩ ?_
      exact a_lret dX8_plan_12 rfl (absurd hin (by omega))
  · refine c_of (by decide) (Nat.le_of_ble_eq_true rfl) ?_
    show Aj γ mX8_plan d 0 0 Post 0 [(0, vA 0), (1, vI q)] [] (mk h τ)
    refine a_iload_n (j := 1) dX8_plan_0 rfl rfl ?_
    refine a_iconst dX8_plan_1 ⟨by decide, by decide⟩ ?_
    refine a_iconst dX8_plan_2 ⟨by decide, by decide⟩ ?_
    refine a_callS (d' := d - 1) (mc' := 0) (ms' := 0) (mc1 := 0) (ms1 := 0) (st := []) [vI q, vI 0, vI 1] dX8_plan_3 mwX8_within lkX8_68 rfl (Nat.le_of_ble_eq_true rfl) (by omega) rfl rfl (c_X8_within  (by omega)    (fun t3_1 => ?_) (fun t3_1 => ?_))
    · have t3_1 : 0 ≤ q ∧ q ≤ 1 := t3_1
      show Aj γ mX8_plan d 0 0 Post 6 [(0, vA 0), (1, vI q)] [vI 1] (mk h τ)
      refine a_if_ne (tgt := 13) dX8_plan_6 (by decide) (fun _ => ?_) (fun c => absurd c (by decide))
      exact absurd (by omega) hin
    · have t3_1 : ¬ (0 ≤ q ∧ q ≤ 1) := t3_1
      show Aj γ mX8_plan d 0 0 Post 6 [(0, vA 0), (1, vI q)] [vI 0] (mk h τ)
      refine a_if_ne (tgt := 13) dX8_plan_6 (by decide) (fun c => absurd c (by decide)) (fun _ => ?_)
      refine a_ldc2 (z := (-1000000001)) dX8_plan_9 kwX8_190 ⟨by decide, by decide, by decide⟩ ?_
      exact a_lret dX8_plan_12 rfl (post_l (kQ h Fr_r hC) (by unfold vPlan; rw [if_neg hin]))
set_option maxHeartbeats 8000000 in
theorem q_X9_plan {γ : GT} {d : Nat} {q : Int} {N : Nat → Int} {h : Nat → Nat → Int} {τ : List AC} {Post : Option AV → List AC → Prop} (hd : 12 ≤ d) (hN : h 124 = N) (hX : NX N) (hC : RC h N) (kQ : ∀ h', Fr [123, 127, 128, 129, 130, 131, 132, 133, 134, 135, 136, 143, 144] h h' → K3 h h' → RC h' N → Post (some (vL (vPlan N q))) (mk h' τ)) : Cj γ mX9_plan d 0 0 [vA 123, vI q] (mk h τ) Post := by
  have hsc := hX.1.1
  have hs1 := hsc.1
  have hs2 := hsc.2.1
  have hs3 := hsc.2.2.1
  have hs4 := hsc.2.2.2.1
  have hs5 := hsc.2.2.2.2
  have hx7 := hX.2.1
  have hx8 := hX.2.2.2.1
  obtain ⟨T, hTe⟩ : ∃ T, tt N = T := ⟨_, rfl⟩
  have hT : tOK T := hTe ▸ tt_OK hX.1
  have hNT : NTr N T := hTe ▸ NT_tt hX.1
  have e02 : N 5 = T 0 2 := hNT.1.2.2.1
  have e03 : N 4 = T 0 3 := hNT.1.2.2.2
  by_cases hin : 0 ≤ q ∧ q ≤ 1
  · skip
    obtain ⟨n, hn⟩ : ∃ n : Nat, N 7 = (n : Int) := ⟨Int.toNat (N 7), by omega⟩
    have hpk : ∀ k : Nat, k < n → N (147 + k) = ((plK N k : Nat) : Int) ∧ ((plK N k : Nat) : Int) < T 0 2 := fun k hk => by have := hX.2.2.1 k (by omega); unfold plK; omega
    refine c_of (by decide) (Nat.le_of_ble_eq_true rfl) ?_
    show Aj γ mX9_plan d 0 0 Post 0 [(0, vA 123), (1, vI q)] [] (mk h τ)
    refine a_iload_n (j := 1) dX9_plan_0 rfl rfl ?_
    refine a_iconst dX9_plan_1 ⟨by decide, by decide⟩ ?_
    refine a_iconst dX9_plan_2 ⟨by decide, by decide⟩ ?_
    refine a_callS (d' := d - 1) (mc' := 0) (ms' := 0) (mc1 := 0) (ms1 := 0) (st := []) [vI q, vI 0, vI 1] dX9_plan_3 mwX9_in lkX9_103 rfl (Nat.le_of_ble_eq_true rfl) (by omega) rfl rfl (c_X9_in  (by omega)    (fun t3_1 => ?_) (fun t3_1 => ?_))
    · have t3_1 : 0 ≤ q ∧ q ≤ 1 := t3_1
      show Aj γ mX9_plan d 0 0 Post 6 [(0, vA 123), (1, vI q)] [vI 1] (mk h τ)
      refine a_if_ne (tgt := 13) dX9_plan_6 (by decide) (fun _ => ?_) (fun c => absurd c (by decide))
      refine a_aload_n (j := 0) dX9_plan_13 rfl rfl (Nat.le_of_ble_eq_true rfl) ?_
      refine b_callV (d' := d - 1) (mc' := 0) (ms' := 0) (mc1 := 0) (ms1 := 0) (st := []) (b := 123) [] dX9_plan_14 mwX9_judge lkX9_191 (by decide) rfl rc_X9 rfl (Nat.le_of_ble_eq_true rfl) (by omega) rfl rfl (c_X9_judge (N := N) (by omega) hN hX ?_)
      show Aj γ mX9_plan d 0 0 Post 17 [(0, vA 123), (1, vI q)] [vI (vJudge N)] (mk h τ)
      refine a_ldc (z := (-1000000005)) dX9_plan_17 kwX9_115 ⟨by decide, by decide, by decide⟩ ?_
      refine a_icmp_eq (tgt := 26) dX9_plan_19 (by decide) (fun c19_2 => ?_) (fun c19_2 => ?_)
      · refine a_aload_n (j := 0) dX9_plan_26 rfl rfl (Nat.le_of_ble_eq_true rfl) ?_
        refine b_getp (a := 123) (p := 124) dX9_plan_27 fwX9_9 (by decide) rfl (by decide) rfl rfl ?_
        refine a_bipush dX9_plan_30 ⟨by decide, by decide, by decide⟩ ?_
        refine b_iaload (a := 124) (z := N 7) 7 dX9_plan_32 (by decide) rfl rfl (by decide) rfl (congrFun hN _) (fun r32_3 => ?_)
        refine a_if_ne (tgt := 46) dX9_plan_33 (by decide) (fun c33_4 => ?_) (fun c33_4 => ?_)
        · refine a_aload_n (j := 0) dX9_plan_46 rfl rfl (Nat.le_of_ble_eq_true rfl) ?_
          refine b_callV (d' := d - 1) (mc' := 0) (ms' := 0) (mc1 := 0) (ms1 := 0) (st := []) (b := 123) [] dX9_plan_47 mwX9_learns lkX9_155 (by decide) rfl rc_X9 rfl (Nat.le_of_ble_eq_true rfl) (by omega) rfl rfl (k_learns (N := N) (by omega) hN hX.1 hC (fun h7 hF7 k7 c7 t7 g7 => ?_))
          rw [hTe] at t7 g7
          show Aj γ mX9_plan d 0 0 Post 50 [(0, vA 123), (1, vI q)] [] (mk h7 τ)
          refine a_aload_n (j := 0) dX9_plan_50 rfl rfl (Nat.le_of_ble_eq_true rfl) ?_
          refine b_getp (a := 123) (p := 124) dX9_plan_51 fwX9_9 (by decide) rfl (by decide) rfl rfl ?_
          refine a_sipush dX9_plan_54 ⟨by decide, by decide, by decide⟩ ?_
          refine b_iaload (a := 124) (z := ((plK N 0 : Nat) : Int)) 147 dX9_plan_57 (by decide) rfl rfl (by decide) rfl ((congrFun ((hF7 124 (by decide)).trans hN) 147).trans (hpk 0 (by omega)).1) (fun r57_5 => ?_)
          refine a_istore_n (lv' := [(2, vI ((plK N 0 : Nat) : Int)), (0, vA 123), (1, vI q)]) dX9_plan_58 rfl (by decide) rfl ?_
          refine a_iconst dX9_plan_59 ⟨by decide, by decide⟩ ?_
          refine a_istore_n (lv' := [(3, vI 0), (2, vI ((plK N 0 : Nat) : Int)), (0, vA 123), (1, vI q)]) dX9_plan_60 rfl (by decide) rfl ?_
          refine a_lv (lv' := [(3, vI ((0 : Nat) : Int)), (2, vI (((plK N 0) : Nat) : Int)), (0, vA 123), (1, vI q)]) (by intro q hq; simp only [List.mem_cons, List.not_mem_nil, or_false] at hq ⊢; rcases hq with rfl | rfl | rfl | rfl <;> simp) (l_p9a (h := h7) (T := T) (a := plK N 0) (by omega) hT t7 (hpk 0 (by omega)).2 ?_ 5 0 h7 (by omega) (by omega) Fr_r (fun s hs => by omega))
          intro h5 x5 hF5 a5
          refine a_iconst dX9_plan_88 ⟨by decide, by decide⟩ ?_
          refine a_istore_n (lv' := [(3, vI 1), (2, vI (((plK N 0) : Nat) : Int)), (0, vA 123), (1, vI q)]) dX9_plan_89 rfl (by decide) rfl ?_
          have e5 : h5 124 = N := (hF5 124 (by decide)).trans ((hF7 124 (by decide)).trans hN)
          refine a_lv (lv' := [(3, vI ((1 : Nat) : Int)), (2, vI (((plK N 0) : Nat) : Int)), (0, vA 123), (1, vI q)]) (by intro q hq; simp only [List.mem_cons, List.not_mem_nil, or_false] at hq ⊢; rcases hq with rfl | rfl | rfl | rfl <;> simp) (l_p9m (h := h5) (T := T) (pl := plK N) (n := n) (by omega) hT (RT_fr (by decide) hF5 t7) (by rw [e5]; exact hn) (by omega) (fun k hk => ⟨by rw [e5]; exact (hpk k hk).1, (hpk k hk).2⟩) ?_ n 1 h5 (by omega) (by omega) Fr_r a5 (by omega))
          intro h9 hF8 a9
          have hF9 : Fr [131, 132] h7 h9 := Fr_t (Fr_m (by decide) hF5) hF8
          refine a_lconst (z := 0) dX9_plan_133 ⟨by decide, by decide, by decide⟩ ?_
          refine a_lstore_n (lv' := [(3, vL 0), (2, vI (((plK N (n - 1)) : Nat) : Int)), (0, vA 123), (1, vI q)]) dX9_plan_134 rfl (by decide) rfl ?_
          refine a_iconst dX9_plan_135 ⟨by decide, by decide⟩ ?_
          refine a_istore (lv' := [(5, vI 0), (3, vL 0), (2, vI (((plK N (n - 1)) : Nat) : Int)), (0, vA 123), (1, vI q)]) dX9_plan_136 (by decide) rfl ?_
          rcases (show q = 0 ∨ q = 1 by omega) with rfl | rfl
          · exact a_lv (lv' := [(5, vI ((0 : Nat) : Int)), (3, vL 0), (2, vI (((plK N (n - 1)) : Nat) : Int)), (0, vA 123), (1, vI 0)]) (by intro q hq; simp only [List.mem_cons, List.not_mem_nil, or_false] at hq ⊢; rcases hq with rfl | rfl | rfl | rfl | rfl <;> simp) (l_p9f_0 (h := h9) (T := T) (W := wyN T (plK N) (n - 1)) (by omega) hT (RT_fr (by decide) hF9 t7) (hpk (n - 1) (by omega)).2 a9 (wy_b5 hT (by omega)) (post_l (kQ h9 (Fr_t hF7 (Fr_m (by decide) hF9)) (K3_t k7 (fun k _ _ _ => Fr_v hF9 (by decide))) (RC_fr hF9 c7)) (by unfold vPlan; rw [if_pos hin, if_pos (by omega), if_neg (by omega), hTe, show Int.toNat (N 7) = n by omega]; unfold plV; rw [if_neg (by decide)])) 5 0 (by omega) (by omega))
          · exact a_lv (lv' := [(5, vI ((0 : Nat) : Int)), (3, vL 0), (2, vI (((plK N (n - 1)) : Nat) : Int)), (0, vA 123), (1, vI 1)]) (by intro q hq; simp only [List.mem_cons, List.not_mem_nil, or_false] at hq ⊢; rcases hq with rfl | rfl | rfl | rfl | rfl <;> simp) (l_p9f_1 (h := h9) (T := T) (W := wyN T (plK N) (n - 1)) (by omega) hT (RT_fr (by decide) hF9 t7) (hpk (n - 1) (by omega)).2 a9 (wy_b5 hT (by omega)) (post_l (kQ h9 (Fr_t hF7 (Fr_m (by decide) hF9)) (K3_t k7 (fun k _ _ _ => Fr_v hF9 (by decide))) (RC_fr hF9 c7)) (by unfold vPlan; rw [if_pos hin, if_pos (by omega), if_neg (by omega), hTe, show Int.toNat (N 7) = n by omega]; unfold plV; rw [if_pos (by decide)])) 5 0 (by omega) (by omega))
        · refine a_iload_n (j := 1) dX9_plan_36 rfl rfl ?_
          refine a_if_ne (tgt := 44) dX9_plan_37 (by decide) (fun c37_6 => ?_) (fun c37_6 => ?_)
          · refine a_lconst (z := 0) dX9_plan_44 ⟨by decide, by decide, by decide⟩ ?_
            exact a_lret dX9_plan_45 rfl (post_l (kQ h Fr_r K3_r hC) (by unfold vPlan; rw [if_pos hin, if_pos (by omega), if_pos (by omega), if_neg (by omega)]))
          · refine a_lconst (z := 1) dX9_plan_40 ⟨by decide, by decide, by decide⟩ ?_
            refine a_goto (tgt := 45) dX9_plan_41 (by decide) ?_
            exact a_lret dX9_plan_45 rfl (post_l (kQ h Fr_r K3_r hC) (by unfold vPlan; rw [if_pos hin, if_pos (by omega), if_pos (by omega), if_pos (by omega)]))
      · refine a_ldc2 (z := (-1000000002)) dX9_plan_22 kwX9_195 ⟨by decide, by decide, by decide⟩ ?_
        exact a_lret dX9_plan_25 rfl (post_l (kQ h Fr_r K3_r hC) (by unfold vPlan; rw [if_pos hin, if_neg (by omega)]))
    · have t3_1 : ¬ (0 ≤ q ∧ q ≤ 1) := t3_1
      show Aj γ mX9_plan d 0 0 Post 6 [(0, vA 123), (1, vI q)] [vI 0] (mk h τ)
      refine a_if_ne (tgt := 13) dX9_plan_6 (by decide) (fun c => absurd c (by decide)) (fun _ => ?_)
      refine a_ldc2 (z := (-1000000001)) dX9_plan_9 kwX9_189 ⟨by decide, by decide, by decide⟩ ?_
      exact a_lret dX9_plan_12 rfl (absurd hin (by omega))
  · refine c_of (by decide) (Nat.le_of_ble_eq_true rfl) ?_
    show Aj γ mX9_plan d 0 0 Post 0 [(0, vA 123), (1, vI q)] [] (mk h τ)
    refine a_iload_n (j := 1) dX9_plan_0 rfl rfl ?_
    refine a_iconst dX9_plan_1 ⟨by decide, by decide⟩ ?_
    refine a_iconst dX9_plan_2 ⟨by decide, by decide⟩ ?_
    refine a_callS (d' := d - 1) (mc' := 0) (ms' := 0) (mc1 := 0) (ms1 := 0) (st := []) [vI q, vI 0, vI 1] dX9_plan_3 mwX9_in lkX9_103 rfl (Nat.le_of_ble_eq_true rfl) (by omega) rfl rfl (c_X9_in  (by omega)    (fun t3_1 => ?_) (fun t3_1 => ?_))
    · have t3_1 : 0 ≤ q ∧ q ≤ 1 := t3_1
      show Aj γ mX9_plan d 0 0 Post 6 [(0, vA 123), (1, vI q)] [vI 1] (mk h τ)
      refine a_if_ne (tgt := 13) dX9_plan_6 (by decide) (fun _ => ?_) (fun c => absurd c (by decide))
      exact absurd (by omega) hin
    · have t3_1 : ¬ (0 ≤ q ∧ q ≤ 1) := t3_1
      show Aj γ mX9_plan d 0 0 Post 6 [(0, vA 123), (1, vI q)] [vI 0] (mk h τ)
      refine a_if_ne (tgt := 13) dX9_plan_6 (by decide) (fun c => absurd c (by decide)) (fun _ => ?_)
      refine a_ldc2 (z := (-1000000001)) dX9_plan_9 kwX9_189 ⟨by decide, by decide, by decide⟩ ?_
      exact a_lret dX9_plan_12 rfl (post_l (kQ h Fr_r K3_r hC) (by unfold vPlan; rw [if_neg hin]))
set_option maxHeartbeats 8000000 in
theorem q_X8_mean {γ : GT} {d : Nat} {s m : Int} {N J : Nat → Int} {h : Nat → Nat → Int} {τ : List AC} {Post : Option AV → List AC → Prop} (hd : 12 ≤ d) (hR : WR h τ 1 N) (hX : NX N) (hC : CC h N J) (kQ : ∀ h', Fr [63, 64, 65, 66, 67, 68, 69, 70, 71, 72, 73, 74, 75, 76, 77, 78, 79, 80, 81, 82, 83] h h' → CC h' N J → Post (some (vI (vMean N s m))) (mk h' τ)) : Cj γ mX8_mean d 0 0 [vA 0, vI s, vI m] (mk h τ) Post := by
  have hsc := hX.1.1
  have hs1 := hsc.1
  have hs2 := hsc.2.1
  have hs3 := hsc.2.2.1
  have hs4 := hsc.2.2.2.1
  have hs5 := hsc.2.2.2.2
  have hx7 := hX.2.1
  have hx8 := hX.2.2.2.1
  obtain ⟨T, hTe⟩ : ∃ T, tt N = T := ⟨_, rfl⟩
  have hT : tOK T := hTe ▸ tt_OK hX.1
  have hNT : NTr N T := hTe ▸ NT_tt hX.1
  have e02 : N 5 = T 0 2 := hNT.1.2.2.1
  have e03 : N 4 = T 0 3 := hNT.1.2.2.2
  by_cases hin : (0 ≤ s ∧ s < N 4) ∧ (0 ≤ m ∧ m ≤ 2879)
  · skip
    refine c_of (by decide) (Nat.le_of_ble_eq_true rfl) ?_
    show Aj γ mX8_mean d 0 0 Post 0 [(0, vA 0), (1, vI s), (2, vI m)] [] (mk h τ)
    refine a_aload_n (j := 0) dX8_mean_0 rfl rfl (Nat.le_of_ble_eq_true rfl) ?_
    refine a_iload_n (j := 1) dX8_mean_1 rfl rfl ?_
    refine a_iload_n (j := 2) dX8_mean_2 rfl rfl ?_
    refine b_callV (d' := d - 1) (mc' := 0) (ms' := 0) (mc1 := 0) (ms1 := 0) (st := []) (b := 0) [vI s, vI m] dX8_mean_3 mwX8_isPoint lkX8_204 (by decide) rfl rc_X8 rfl (Nat.le_of_ble_eq_true rfl) (by omega) rfl rfl (c_X8_isPoint (v1 := (N 4)) (by omega)  hR.1.1 (show 0 ≤ (N 4) ∧ (N 4) ≤ 6 by omega) (fun t3_1 => ?_) (fun t3_1 => ?_))
    · have t3_1 : (0 ≤ s ∧ s < (N 4)) ∧ (0 ≤ m ∧ m ≤ 2879) := t3_1
      show Aj γ mX8_mean d 0 0 Post 6 [(0, vA 0), (1, vI s), (2, vI m)] [vI 1] (mk h τ)
      refine a_if_eq (tgt := 36) dX8_mean_6 (by decide) (fun c => absurd c (by decide)) (fun _ => ?_)
      refine a_aload_n (j := 0) dX8_mean_9 rfl rfl (Nat.le_of_ble_eq_true rfl) ?_
      refine b_getp (a := 0) (p := 78) dX8_mean_10 fwX8_33 (by decide) rfl (by decide) rfl rfl ?_
      refine a_aload_n (j := 0) dX8_mean_13 rfl rfl (Nat.le_of_ble_eq_true rfl) ?_
      refine b_getp (a := 0) (p := 63) dX8_mean_14 fwX8_24 (by decide) rfl (by decide) rfl rfl ?_
      refine a_aload_n (j := 0) dX8_mean_17 rfl rfl (Nat.le_of_ble_eq_true rfl) ?_
      refine b_getp (a := 0) (p := 1) dX8_mean_18 fwX8_14 (by decide) rfl (by decide) rfl rfl ?_
      refine b_callV (d' := d - 1) (mc' := 0) (ms' := 0) (mc1 := 0) (ms1 := 0) (st := []) (b := 78) [vA 63, vA 1] dX8_mean_21 mwX0_drawnFor lkX8_207 (by decide) rfl rc_X0 rfl (Nat.le_of_ble_eq_true rfl) (by omega) rfl rfl (k_drawn_78 (N := N) (J := J) (by omega) hR hX.1 hC (fun h7 hF7 c7 t7 g7 => ?_))
      rw [hTe] at t7 g7
      show Aj γ mX8_mean d 0 0 Post 24 [(0, vA 0), (1, vI s), (2, vI m)] [vA 78] (mk h7 τ)
      refine a_aload_n (j := 0) dX8_mean_24 rfl rfl (Nat.le_of_ble_eq_true rfl) ?_
      refine b_getp (a := 0) (p := 63) dX8_mean_25 fwX8_24 (by decide) rfl (by decide) rfl rfl ?_
      refine a_iload_n (j := 1) dX8_mean_28 rfl rfl ?_
      refine a_iload_n (j := 2) dX8_mean_29 rfl rfl ?_
      refine b_callV (d' := d - 1) (mc' := 0) (ms' := 0) (mc1 := 0) (ms1 := 0) (st := []) (b := 78) [vA 63, vI s, vI m] dX8_mean_30 mwX0_worthAt lkX8_211 (by decide) rfl rc_X0 rfl (Nat.le_of_ble_eq_true rfl) (by omega) rfl rfl (c_X0_worthAt_78 (κ := 0) (T := T) (s := s) (m := m) (by omega) c7.2.2.1.1.1 rfl hT t7 (by omega) (by omega) (fun e1 e2 => g7 _ _ (by omega) (by omega) e1 (by omega) (by omega) (plT_mono (by omega))) ?_)
      show Aj γ mX8_mean d 0 0 Post 33 [(0, vA 0), (1, vI s), (2, vI m)] [vI (WT 0 T s m)] (mk h7 τ)
      refine a_goto (tgt := 38) dX8_mean_33 (by decide) ?_
      exact a_iret dX8_mean_38 rfl (post_v (kQ h7 hF7 c7) (by unfold vMean; rw [if_pos hin, hTe] <;> rfl))
    · have t3_1 : ¬ ((0 ≤ s ∧ s < (N 4)) ∧ (0 ≤ m ∧ m ≤ 2879)) := t3_1
      show Aj γ mX8_mean d 0 0 Post 6 [(0, vA 0), (1, vI s), (2, vI m)] [vI 0] (mk h τ)
      refine a_if_eq (tgt := 36) dX8_mean_6 (by decide) (fun _ => ?_) (fun c => absurd c (by decide))
      refine a_ldc (z := (-1000000001)) dX8_mean_36 kwX8_72 ⟨by decide, by decide, by decide⟩ ?_
      exact a_iret dX8_mean_38 rfl (absurd hin (by omega))
  · refine c_of (by decide) (Nat.le_of_ble_eq_true rfl) ?_
    show Aj γ mX8_mean d 0 0 Post 0 [(0, vA 0), (1, vI s), (2, vI m)] [] (mk h τ)
    refine a_aload_n (j := 0) dX8_mean_0 rfl rfl (Nat.le_of_ble_eq_true rfl) ?_
    refine a_iload_n (j := 1) dX8_mean_1 rfl rfl ?_
    refine a_iload_n (j := 2) dX8_mean_2 rfl rfl ?_
    refine b_callV (d' := d - 1) (mc' := 0) (ms' := 0) (mc1 := 0) (ms1 := 0) (st := []) (b := 0) [vI s, vI m] dX8_mean_3 mwX8_isPoint lkX8_204 (by decide) rfl rc_X8 rfl (Nat.le_of_ble_eq_true rfl) (by omega) rfl rfl (c_X8_isPoint (v1 := (N 4)) (by omega)  hR.1.1 (show 0 ≤ (N 4) ∧ (N 4) ≤ 6 by omega) (fun t3_1 => ?_) (fun t3_1 => ?_))
    · have t3_1 : (0 ≤ s ∧ s < (N 4)) ∧ (0 ≤ m ∧ m ≤ 2879) := t3_1
      show Aj γ mX8_mean d 0 0 Post 6 [(0, vA 0), (1, vI s), (2, vI m)] [vI 1] (mk h τ)
      refine a_if_eq (tgt := 36) dX8_mean_6 (by decide) (fun c => absurd c (by decide)) (fun _ => ?_)
      exact absurd (by omega) hin
    · have t3_1 : ¬ ((0 ≤ s ∧ s < (N 4)) ∧ (0 ≤ m ∧ m ≤ 2879)) := t3_1
      show Aj γ mX8_mean d 0 0 Post 6 [(0, vA 0), (1, vI s), (2, vI m)] [vI 0] (mk h τ)
      refine a_if_eq (tgt := 36) dX8_mean_6 (by decide) (fun _ => ?_) (fun c => absurd c (by decide))
      refine a_ldc (z := (-1000000001)) dX8_mean_36 kwX8_72 ⟨by decide, by decide, by decide⟩ ?_
      exact a_iret dX8_mean_38 rfl (post_v (kQ h Fr_r hC) (by unfold vMean; rw [if_neg hin]))
set_option maxHeartbeats 8000000 in
theorem q_X9_mean {γ : GT} {d : Nat} {s m : Int} {N : Nat → Int} {h : Nat → Nat → Int} {τ : List AC} {Post : Option AV → List AC → Prop} (hd : 12 ≤ d) (hN : h 124 = N) (hX : NX N) (hC : RC h N) (kQ : ∀ h', Fr [123, 127, 128, 129, 130, 131, 132, 133, 134, 135, 136, 143, 144] h h' → K3 h h' → RC h' N → Post (some (vI (vMean N s m))) (mk h' τ)) : Cj γ mX9_mean d 0 0 [vA 123, vI s, vI m] (mk h τ) Post := by
  have hsc := hX.1.1
  have hs1 := hsc.1
  have hs2 := hsc.2.1
  have hs3 := hsc.2.2.1
  have hs4 := hsc.2.2.2.1
  have hs5 := hsc.2.2.2.2
  have hx7 := hX.2.1
  have hx8 := hX.2.2.2.1
  obtain ⟨T, hTe⟩ : ∃ T, tt N = T := ⟨_, rfl⟩
  have hT : tOK T := hTe ▸ tt_OK hX.1
  have hNT : NTr N T := hTe ▸ NT_tt hX.1
  have e02 : N 5 = T 0 2 := hNT.1.2.2.1
  have e03 : N 4 = T 0 3 := hNT.1.2.2.2
  by_cases hin : (0 ≤ s ∧ s < N 4) ∧ (0 ≤ m ∧ m ≤ 2879)
  · skip
    refine c_of (by decide) (Nat.le_of_ble_eq_true rfl) ?_
    show Aj γ mX9_mean d 0 0 Post 0 [(0, vA 123), (1, vI s), (2, vI m)] [] (mk h τ)
    refine a_aload_n (j := 0) dX9_mean_0 rfl rfl (Nat.le_of_ble_eq_true rfl) ?_
    refine a_iload_n (j := 1) dX9_mean_1 rfl rfl ?_
    refine a_iload_n (j := 2) dX9_mean_2 rfl rfl ?_
    refine b_callV (d' := d - 1) (mc' := 0) (ms' := 0) (mc1 := 0) (ms1 := 0) (st := []) (b := 123) [vI s, vI m] dX9_mean_3 mwX9_isPlace lkX9_219 (by decide) rfl rc_X9 rfl (Nat.le_of_ble_eq_true rfl) (by omega) rfl rfl (c_X9_isPlace (v1 := (N 4)) (by omega)  (congrFun hN _) (show 0 ≤ (N 4) ∧ (N 4) ≤ 6 by omega) (fun t3_1 => ?_) (fun t3_1 => ?_))
    · have t3_1 : (0 ≤ s ∧ s < (N 4)) ∧ (0 ≤ m ∧ m ≤ 2879) := t3_1
      show Aj γ mX9_mean d 0 0 Post 6 [(0, vA 123), (1, vI s), (2, vI m)] [vI 1] (mk h τ)
      refine a_if_ne (tgt := 12) dX9_mean_6 (by decide) (fun _ => ?_) (fun c => absurd c (by decide))
      refine a_aload_n (j := 0) dX9_mean_12 rfl rfl (Nat.le_of_ble_eq_true rfl) ?_
      refine a_iload_n (j := 2) dX9_mean_13 rfl rfl ?_
      refine b_callV (d' := d - 1) (mc' := 0) (ms' := 0) (mc1 := 0) (ms1 := 0) (st := []) (b := 123) [vI m] dX9_mean_14 mwX9_learnsFrom lkX9_222 (by decide) rfl rc_X9 rfl (Nat.le_of_ble_eq_true rfl) (by omega) rfl rfl (k_from (N := N) (mi := m) (by omega) hN hX.1 hC (by omega) (fun h7 hF7 k7 c7 t7 g7 => ?_))
      rw [hTe] at t7 g7
      show Aj γ mX9_mean d 0 0 Post 17 [(0, vA 123), (1, vI s), (2, vI m)] [] (mk h7 τ)
      refine a_aload_n (j := 0) dX9_mean_17 rfl rfl (Nat.le_of_ble_eq_true rfl) ?_
      refine a_iload_n (j := 1) dX9_mean_18 rfl rfl ?_
      refine a_iload_n (j := 2) dX9_mean_19 rfl rfl ?_
      refine b_callV (d' := d - 1) (mc' := 0) (ms' := 0) (mc1 := 0) (ms1 := 0) (st := []) (b := 123) [vI s, vI m] dX9_mean_20 mwX9_meanAt lkX9_206 (by decide) rfl rc_X9 rfl (Nat.le_of_ble_eq_true rfl) (by omega) rfl rfl (c_X9_meanAtW (T := T) (lo := m) (by omega) hT t7 g7 (by omega) (by omega) (by omega) ?_)
      show Aj γ mX9_mean d 0 0 Post 23 [(0, vA 123), (1, vI s), (2, vI m)] [vI (WT 0 T s m)] (mk h7 τ)
      exact a_iret dX9_mean_23 rfl (post_v (kQ h7 hF7 k7 c7) (by unfold vMean; rw [if_pos hin, hTe] <;> rfl))
    · have t3_1 : ¬ ((0 ≤ s ∧ s < (N 4)) ∧ (0 ≤ m ∧ m ≤ 2879)) := t3_1
      show Aj γ mX9_mean d 0 0 Post 6 [(0, vA 123), (1, vI s), (2, vI m)] [vI 0] (mk h τ)
      refine a_if_ne (tgt := 12) dX9_mean_6 (by decide) (fun c => absurd c (by decide)) (fun _ => ?_)
      refine a_ldc (z := (-1000000001)) dX9_mean_9 kwX9_146 ⟨by decide, by decide, by decide⟩ ?_
      exact a_iret dX9_mean_11 rfl (absurd hin (by omega))
  · refine c_of (by decide) (Nat.le_of_ble_eq_true rfl) ?_
    show Aj γ mX9_mean d 0 0 Post 0 [(0, vA 123), (1, vI s), (2, vI m)] [] (mk h τ)
    refine a_aload_n (j := 0) dX9_mean_0 rfl rfl (Nat.le_of_ble_eq_true rfl) ?_
    refine a_iload_n (j := 1) dX9_mean_1 rfl rfl ?_
    refine a_iload_n (j := 2) dX9_mean_2 rfl rfl ?_
    refine b_callV (d' := d - 1) (mc' := 0) (ms' := 0) (mc1 := 0) (ms1 := 0) (st := []) (b := 123) [vI s, vI m] dX9_mean_3 mwX9_isPlace lkX9_219 (by decide) rfl rc_X9 rfl (Nat.le_of_ble_eq_true rfl) (by omega) rfl rfl (c_X9_isPlace (v1 := (N 4)) (by omega)  (congrFun hN _) (show 0 ≤ (N 4) ∧ (N 4) ≤ 6 by omega) (fun t3_1 => ?_) (fun t3_1 => ?_))
    · have t3_1 : (0 ≤ s ∧ s < (N 4)) ∧ (0 ≤ m ∧ m ≤ 2879) := t3_1
      show Aj γ mX9_mean d 0 0 Post 6 [(0, vA 123), (1, vI s), (2, vI m)] [vI 1] (mk h τ)
      refine a_if_ne (tgt := 12) dX9_mean_6 (by decide) (fun _ => ?_) (fun c => absurd c (by decide))
      exact absurd (by omega) hin
    · have t3_1 : ¬ ((0 ≤ s ∧ s < (N 4)) ∧ (0 ≤ m ∧ m ≤ 2879)) := t3_1
      show Aj γ mX9_mean d 0 0 Post 6 [(0, vA 123), (1, vI s), (2, vI m)] [vI 0] (mk h τ)
      refine a_if_ne (tgt := 12) dX9_mean_6 (by decide) (fun c => absurd c (by decide)) (fun _ => ?_)
      refine a_ldc (z := (-1000000001)) dX9_mean_9 kwX9_146 ⟨by decide, by decide, by decide⟩ ?_
      exact a_iret dX9_mean_11 rfl (post_v (kQ h Fr_r K3_r hC) (by unfold vMean; rw [if_neg hin]))
set_option maxHeartbeats 8000000 in
theorem q_X8_taken {γ : GT} {d : Nat} {s m : Int} {N J : Nat → Int} {h : Nat → Nat → Int} {τ : List AC} {Post : Option AV → List AC → Prop} (hd : 12 ≤ d) (hR : WR h τ 1 N) (hX : NX N) (hC : CC h N J) (kQ : ∀ h', Fr [63, 64, 65, 66, 67, 68, 69, 70, 71, 72, 73, 74, 75, 76, 77, 78, 79, 80, 81, 82, 83] h h' → CC h' N J → Post (some (vI (vTaken N s m))) (mk h' τ)) : Cj γ mX8_taken d 0 0 [vA 0, vI s, vI m] (mk h τ) Post := by
  have hsc := hX.1.1
  have hs1 := hsc.1
  have hs2 := hsc.2.1
  have hs3 := hsc.2.2.1
  have hs4 := hsc.2.2.2.1
  have hs5 := hsc.2.2.2.2
  have hx7 := hX.2.1
  have hx8 := hX.2.2.2.1
  obtain ⟨T, hTe⟩ : ∃ T, tt N = T := ⟨_, rfl⟩
  have hT : tOK T := hTe ▸ tt_OK hX.1
  have hNT : NTr N T := hTe ▸ NT_tt hX.1
  have e02 : N 5 = T 0 2 := hNT.1.2.2.1
  have e03 : N 4 = T 0 3 := hNT.1.2.2.2
  by_cases hin : (0 ≤ s ∧ s < N 4) ∧ (0 ≤ m ∧ m ≤ 2879)
  · skip
    refine c_of (by decide) (Nat.le_of_ble_eq_true rfl) ?_
    show Aj γ mX8_taken d 0 0 Post 0 [(0, vA 0), (1, vI s), (2, vI m)] [] (mk h τ)
    refine a_aload_n (j := 0) dX8_taken_0 rfl rfl (Nat.le_of_ble_eq_true rfl) ?_
    refine a_iload_n (j := 1) dX8_taken_1 rfl rfl ?_
    refine a_iload_n (j := 2) dX8_taken_2 rfl rfl ?_
    refine b_callV (d' := d - 1) (mc' := 0) (ms' := 0) (mc1 := 0) (ms1 := 0) (st := []) (b := 0) [vI s, vI m] dX8_taken_3 mwX8_isPoint lkX8_204 (by decide) rfl rc_X8 rfl (Nat.le_of_ble_eq_true rfl) (by omega) rfl rfl (c_X8_isPoint (v1 := (N 4)) (by omega)  hR.1.1 (show 0 ≤ (N 4) ∧ (N 4) ≤ 6 by omega) (fun t3_1 => ?_) (fun t3_1 => ?_))
    · have t3_1 : (0 ≤ s ∧ s < (N 4)) ∧ (0 ≤ m ∧ m ≤ 2879) := t3_1
      show Aj γ mX8_taken d 0 0 Post 6 [(0, vA 0), (1, vI s), (2, vI m)] [vI 1] (mk h τ)
      refine a_if_eq (tgt := 36) dX8_taken_6 (by decide) (fun c => absurd c (by decide)) (fun _ => ?_)
      refine a_aload_n (j := 0) dX8_taken_9 rfl rfl (Nat.le_of_ble_eq_true rfl) ?_
      refine b_getp (a := 0) (p := 78) dX8_taken_10 fwX8_33 (by decide) rfl (by decide) rfl rfl ?_
      refine a_aload_n (j := 0) dX8_taken_13 rfl rfl (Nat.le_of_ble_eq_true rfl) ?_
      refine b_getp (a := 0) (p := 63) dX8_taken_14 fwX8_24 (by decide) rfl (by decide) rfl rfl ?_
      refine a_aload_n (j := 0) dX8_taken_17 rfl rfl (Nat.le_of_ble_eq_true rfl) ?_
      refine b_getp (a := 0) (p := 1) dX8_taken_18 fwX8_14 (by decide) rfl (by decide) rfl rfl ?_
      refine b_callV (d' := d - 1) (mc' := 0) (ms' := 0) (mc1 := 0) (ms1 := 0) (st := []) (b := 78) [vA 63, vA 1] dX8_taken_21 mwX0_drawnFor lkX8_207 (by decide) rfl rc_X0 rfl (Nat.le_of_ble_eq_true rfl) (by omega) rfl rfl (k_drawn_78 (N := N) (J := J) (by omega) hR hX.1 hC (fun h7 hF7 c7 t7 g7 => ?_))
      rw [hTe] at t7 g7
      show Aj γ mX8_taken d 0 0 Post 24 [(0, vA 0), (1, vI s), (2, vI m)] [vA 78] (mk h7 τ)
      refine a_aload_n (j := 0) dX8_taken_24 rfl rfl (Nat.le_of_ble_eq_true rfl) ?_
      refine b_getp (a := 0) (p := 63) dX8_taken_25 fwX8_24 (by decide) rfl (by decide) rfl rfl ?_
      refine a_iload_n (j := 1) dX8_taken_28 rfl rfl ?_
      refine a_iload_n (j := 2) dX8_taken_29 rfl rfl ?_
      refine b_callV (d' := d - 1) (mc' := 0) (ms' := 0) (mc1 := 0) (ms1 := 0) (st := []) (b := 78) [vA 63, vI s, vI m] dX8_taken_30 mwX0_bestTrain lkX8_215 (by decide) rfl rc_X0 rfl (Nat.le_of_ble_eq_true rfl) (by omega) rfl rfl (c_X0_bestTrain_78 (κ := 0) (T := T) (s := s) (m := m) (P := plT T 0) (by omega) c7.2.2.1.1.1 rfl hT t7 (by omega) (by omega) g7 (fun _ => plT_mono (by omega)) (fun h8 hF8 j8 _ => ?_))
      show Aj γ mX8_taken d 0 0 Post 33 [(0, vA 0), (1, vI s), (2, vI m)] [vI (hsF (TKk 0 T s m))] (mk h8 τ)
      refine a_goto (tgt := 38) dX8_taken_33 (by decide) ?_
      exact a_iret dX8_taken_38 rfl (post_v (kQ h8 (Fr_t hF7 (Fr_m (by decide) hF8)) (CC_b78 hF8 j8 c7)) (by unfold vTaken; rw [if_pos hin, hTe] <;> rfl))
    · have t3_1 : ¬ ((0 ≤ s ∧ s < (N 4)) ∧ (0 ≤ m ∧ m ≤ 2879)) := t3_1
      show Aj γ mX8_taken d 0 0 Post 6 [(0, vA 0), (1, vI s), (2, vI m)] [vI 0] (mk h τ)
      refine a_if_eq (tgt := 36) dX8_taken_6 (by decide) (fun _ => ?_) (fun c => absurd c (by decide))
      refine a_ldc (z := (-1000000001)) dX8_taken_36 kwX8_72 ⟨by decide, by decide, by decide⟩ ?_
      exact a_iret dX8_taken_38 rfl (absurd hin (by omega))
  · refine c_of (by decide) (Nat.le_of_ble_eq_true rfl) ?_
    show Aj γ mX8_taken d 0 0 Post 0 [(0, vA 0), (1, vI s), (2, vI m)] [] (mk h τ)
    refine a_aload_n (j := 0) dX8_taken_0 rfl rfl (Nat.le_of_ble_eq_true rfl) ?_
    refine a_iload_n (j := 1) dX8_taken_1 rfl rfl ?_
    refine a_iload_n (j := 2) dX8_taken_2 rfl rfl ?_
    refine b_callV (d' := d - 1) (mc' := 0) (ms' := 0) (mc1 := 0) (ms1 := 0) (st := []) (b := 0) [vI s, vI m] dX8_taken_3 mwX8_isPoint lkX8_204 (by decide) rfl rc_X8 rfl (Nat.le_of_ble_eq_true rfl) (by omega) rfl rfl (c_X8_isPoint (v1 := (N 4)) (by omega)  hR.1.1 (show 0 ≤ (N 4) ∧ (N 4) ≤ 6 by omega) (fun t3_1 => ?_) (fun t3_1 => ?_))
    · have t3_1 : (0 ≤ s ∧ s < (N 4)) ∧ (0 ≤ m ∧ m ≤ 2879) := t3_1
      show Aj γ mX8_taken d 0 0 Post 6 [(0, vA 0), (1, vI s), (2, vI m)] [vI 1] (mk h τ)
      refine a_if_eq (tgt := 36) dX8_taken_6 (by decide) (fun c => absurd c (by decide)) (fun _ => ?_)
      exact absurd (by omega) hin
    · have t3_1 : ¬ ((0 ≤ s ∧ s < (N 4)) ∧ (0 ≤ m ∧ m ≤ 2879)) := t3_1
      show Aj γ mX8_taken d 0 0 Post 6 [(0, vA 0), (1, vI s), (2, vI m)] [vI 0] (mk h τ)
      refine a_if_eq (tgt := 36) dX8_taken_6 (by decide) (fun _ => ?_) (fun c => absurd c (by decide))
      refine a_ldc (z := (-1000000001)) dX8_taken_36 kwX8_72 ⟨by decide, by decide, by decide⟩ ?_
      exact a_iret dX8_taken_38 rfl (post_v (kQ h Fr_r hC) (by unfold vTaken; rw [if_neg hin]))
set_option maxHeartbeats 8000000 in
theorem q_X9_taken {γ : GT} {d : Nat} {s m : Int} {N : Nat → Int} {h : Nat → Nat → Int} {τ : List AC} {Post : Option AV → List AC → Prop} (hd : 12 ≤ d) (hN : h 124 = N) (hX : NX N) (hC : RC h N) (kQ : ∀ h', Fr [123, 127, 128, 129, 130, 131, 132, 133, 134, 135, 136, 143, 144] h h' → K3 h h' → RC h' N → Post (some (vI (vTaken N s m))) (mk h' τ)) : Cj γ mX9_taken d 0 0 [vA 123, vI s, vI m] (mk h τ) Post := by
  have hsc := hX.1.1
  have hs1 := hsc.1
  have hs2 := hsc.2.1
  have hs3 := hsc.2.2.1
  have hs4 := hsc.2.2.2.1
  have hs5 := hsc.2.2.2.2
  have hx7 := hX.2.1
  have hx8 := hX.2.2.2.1
  obtain ⟨T, hTe⟩ : ∃ T, tt N = T := ⟨_, rfl⟩
  have hT : tOK T := hTe ▸ tt_OK hX.1
  have hNT : NTr N T := hTe ▸ NT_tt hX.1
  have e02 : N 5 = T 0 2 := hNT.1.2.2.1
  have e03 : N 4 = T 0 3 := hNT.1.2.2.2
  by_cases hin : (0 ≤ s ∧ s < N 4) ∧ (0 ≤ m ∧ m ≤ 2879)
  · skip
    refine c_of (by decide) (Nat.le_of_ble_eq_true rfl) ?_
    show Aj γ mX9_taken d 0 0 Post 0 [(0, vA 123), (1, vI s), (2, vI m)] [] (mk h τ)
    refine a_aload_n (j := 0) dX9_taken_0 rfl rfl (Nat.le_of_ble_eq_true rfl) ?_
    refine a_iload_n (j := 1) dX9_taken_1 rfl rfl ?_
    refine a_iload_n (j := 2) dX9_taken_2 rfl rfl ?_
    refine b_callV (d' := d - 1) (mc' := 0) (ms' := 0) (mc1 := 0) (ms1 := 0) (st := []) (b := 123) [vI s, vI m] dX9_taken_3 mwX9_isPlace lkX9_219 (by decide) rfl rc_X9 rfl (Nat.le_of_ble_eq_true rfl) (by omega) rfl rfl (c_X9_isPlace (v1 := (N 4)) (by omega)  (congrFun hN _) (show 0 ≤ (N 4) ∧ (N 4) ≤ 6 by omega) (fun t3_1 => ?_) (fun t3_1 => ?_))
    · have t3_1 : (0 ≤ s ∧ s < (N 4)) ∧ (0 ≤ m ∧ m ≤ 2879) := t3_1
      show Aj γ mX9_taken d 0 0 Post 6 [(0, vA 123), (1, vI s), (2, vI m)] [vI 1] (mk h τ)
      refine a_if_ne (tgt := 12) dX9_taken_6 (by decide) (fun _ => ?_) (fun c => absurd c (by decide))
      refine a_aload_n (j := 0) dX9_taken_12 rfl rfl (Nat.le_of_ble_eq_true rfl) ?_
      refine a_iload_n (j := 2) dX9_taken_13 rfl rfl ?_
      refine b_callV (d' := d - 1) (mc' := 0) (ms' := 0) (mc1 := 0) (ms1 := 0) (st := []) (b := 123) [vI m] dX9_taken_14 mwX9_learnsFrom lkX9_222 (by decide) rfl rc_X9 rfl (Nat.le_of_ble_eq_true rfl) (by omega) rfl rfl (k_from (N := N) (mi := m) (by omega) hN hX.1 hC (by omega) (fun h7 hF7 k7 c7 t7 g7 => ?_))
      rw [hTe] at t7 g7
      show Aj γ mX9_taken d 0 0 Post 17 [(0, vA 123), (1, vI s), (2, vI m)] [] (mk h7 τ)
      refine a_aload_n (j := 0) dX9_taken_17 rfl rfl (Nat.le_of_ble_eq_true rfl) ?_
      refine a_iload_n (j := 1) dX9_taken_18 rfl rfl ?_
      refine a_iload_n (j := 2) dX9_taken_19 rfl rfl ?_
      refine b_callV (d' := d - 1) (mc' := 0) (ms' := 0) (mc1 := 0) (ms1 := 0) (st := []) (b := 123) [vI s, vI m] dX9_taken_20 mwX9_takenAt lkX9_226 (by decide) rfl rc_X9 rfl (Nat.le_of_ble_eq_true rfl) (by omega) rfl rfl (c_X9_takenAtW (T := T) (lo := m) (by omega) hT t7 g7 (by omega) (by omega) (by omega) ?_)
      show Aj γ mX9_taken d 0 0 Post 23 [(0, vA 123), (1, vI s), (2, vI m)] [vI (TK T s m)] (mk h7 τ)
      refine a_callS (d' := d - 1) (mc' := 0) (ms' := 0) (mc1 := 0) (ms1 := 0) (st := []) [vI (TK T s m)] dX9_taken_23 mwX9_orNone lkX9_161 rfl (Nat.le_of_ble_eq_true rfl) (by omega) rfl rfl (c_X9_orNone  (by omega)    ?_)
      show Aj γ mX9_taken d 0 0 Post 26 [(0, vA 123), (1, vI s), (2, vI m)] [vI (if (TK T s m) < 0 then -1000000005 else (TK T s m))] (mk h7 τ)
      exact a_iret dX9_taken_26 rfl (post_v (kQ h7 hF7 k7 c7) (by unfold vTaken; rw [if_pos hin, hTe] <;> rfl))
    · have t3_1 : ¬ ((0 ≤ s ∧ s < (N 4)) ∧ (0 ≤ m ∧ m ≤ 2879)) := t3_1
      show Aj γ mX9_taken d 0 0 Post 6 [(0, vA 123), (1, vI s), (2, vI m)] [vI 0] (mk h τ)
      refine a_if_ne (tgt := 12) dX9_taken_6 (by decide) (fun c => absurd c (by decide)) (fun _ => ?_)
      refine a_ldc (z := (-1000000001)) dX9_taken_9 kwX9_146 ⟨by decide, by decide, by decide⟩ ?_
      exact a_iret dX9_taken_11 rfl (absurd hin (by omega))
  · refine c_of (by decide) (Nat.le_of_ble_eq_true rfl) ?_
    show Aj γ mX9_taken d 0 0 Post 0 [(0, vA 123), (1, vI s), (2, vI m)] [] (mk h τ)
    refine a_aload_n (j := 0) dX9_taken_0 rfl rfl (Nat.le_of_ble_eq_true rfl) ?_
    refine a_iload_n (j := 1) dX9_taken_1 rfl rfl ?_
    refine a_iload_n (j := 2) dX9_taken_2 rfl rfl ?_
    refine b_callV (d' := d - 1) (mc' := 0) (ms' := 0) (mc1 := 0) (ms1 := 0) (st := []) (b := 123) [vI s, vI m] dX9_taken_3 mwX9_isPlace lkX9_219 (by decide) rfl rc_X9 rfl (Nat.le_of_ble_eq_true rfl) (by omega) rfl rfl (c_X9_isPlace (v1 := (N 4)) (by omega)  (congrFun hN _) (show 0 ≤ (N 4) ∧ (N 4) ≤ 6 by omega) (fun t3_1 => ?_) (fun t3_1 => ?_))
    · have t3_1 : (0 ≤ s ∧ s < (N 4)) ∧ (0 ≤ m ∧ m ≤ 2879) := t3_1
      show Aj γ mX9_taken d 0 0 Post 6 [(0, vA 123), (1, vI s), (2, vI m)] [vI 1] (mk h τ)
      refine a_if_ne (tgt := 12) dX9_taken_6 (by decide) (fun _ => ?_) (fun c => absurd c (by decide))
      exact absurd (by omega) hin
    · have t3_1 : ¬ ((0 ≤ s ∧ s < (N 4)) ∧ (0 ≤ m ∧ m ≤ 2879)) := t3_1
      show Aj γ mX9_taken d 0 0 Post 6 [(0, vA 123), (1, vI s), (2, vI m)] [vI 0] (mk h τ)
      refine a_if_ne (tgt := 12) dX9_taken_6 (by decide) (fun c => absurd c (by decide)) (fun _ => ?_)
      refine a_ldc (z := (-1000000001)) dX9_taken_9 kwX9_146 ⟨by decide, by decide, by decide⟩ ?_
      exact a_iret dX9_taken_11 rfl (post_v (kQ h Fr_r K3_r hC) (by unfold vTaken; rw [if_neg hin]))
set_option maxHeartbeats 8000000 in
theorem q_X8_sure {γ : GT} {d : Nat} {s m : Int} {N J : Nat → Int} {h : Nat → Nat → Int} {τ : List AC} {Post : Option AV → List AC → Prop} (hd : 12 ≤ d) (hR : WR h τ 1 N) (hX : NX N) (hC : CC h N J) (kQ : ∀ h', Fr [63, 64, 65, 66, 67, 68, 69, 70, 71, 72, 73, 74, 75, 76, 77, 78, 79, 80, 81, 82, 83] h h' → CC h' N J → Post (some (vI (vSure N s m))) (mk h' τ)) : Cj γ mX8_sure d 0 0 [vA 0, vI s, vI m] (mk h τ) Post := by
  have hsc := hX.1.1
  have hs1 := hsc.1
  have hs2 := hsc.2.1
  have hs3 := hsc.2.2.1
  have hs4 := hsc.2.2.2.1
  have hs5 := hsc.2.2.2.2
  have hx7 := hX.2.1
  have hx8 := hX.2.2.2.1
  obtain ⟨T, hTe⟩ : ∃ T, tt N = T := ⟨_, rfl⟩
  have hT : tOK T := hTe ▸ tt_OK hX.1
  have hNT : NTr N T := hTe ▸ NT_tt hX.1
  have e02 : N 5 = T 0 2 := hNT.1.2.2.1
  have e03 : N 4 = T 0 3 := hNT.1.2.2.2
  by_cases hin : (0 ≤ s ∧ s < N 4) ∧ (0 ≤ m ∧ m ≤ 2879)
  · skip
    refine c_of (by decide) (Nat.le_of_ble_eq_true rfl) ?_
    show Aj γ mX8_sure d 0 0 Post 0 [(0, vA 0), (1, vI s), (2, vI m)] [] (mk h τ)
    refine a_aload_n (j := 0) dX8_sure_0 rfl rfl (Nat.le_of_ble_eq_true rfl) ?_
    refine a_iload_n (j := 1) dX8_sure_1 rfl rfl ?_
    refine a_iload_n (j := 2) dX8_sure_2 rfl rfl ?_
    refine b_callV (d' := d - 1) (mc' := 0) (ms' := 0) (mc1 := 0) (ms1 := 0) (st := []) (b := 0) [vI s, vI m] dX8_sure_3 mwX8_isPoint lkX8_204 (by decide) rfl rc_X8 rfl (Nat.le_of_ble_eq_true rfl) (by omega) rfl rfl (c_X8_isPoint (v1 := (N 4)) (by omega)  hR.1.1 (show 0 ≤ (N 4) ∧ (N 4) ≤ 6 by omega) (fun t3_1 => ?_) (fun t3_1 => ?_))
    · have t3_1 : (0 ≤ s ∧ s < (N 4)) ∧ (0 ≤ m ∧ m ≤ 2879) := t3_1
      show Aj γ mX8_sure d 0 0 Post 6 [(0, vA 0), (1, vI s), (2, vI m)] [vI 1] (mk h τ)
      refine a_if_eq (tgt := 36) dX8_sure_6 (by decide) (fun c => absurd c (by decide)) (fun _ => ?_)
      refine a_aload_n (j := 0) dX8_sure_9 rfl rfl (Nat.le_of_ble_eq_true rfl) ?_
      refine b_getp (a := 0) (p := 80) dX8_sure_10 fwX8_37 (by decide) rfl (by decide) rfl rfl ?_
      refine a_aload_n (j := 0) dX8_sure_13 rfl rfl (Nat.le_of_ble_eq_true rfl) ?_
      refine b_getp (a := 0) (p := 63) dX8_sure_14 fwX8_24 (by decide) rfl (by decide) rfl rfl ?_
      refine a_aload_n (j := 0) dX8_sure_17 rfl rfl (Nat.le_of_ble_eq_true rfl) ?_
      refine b_getp (a := 0) (p := 1) dX8_sure_18 fwX8_14 (by decide) rfl (by decide) rfl rfl ?_
      refine b_callV (d' := d - 1) (mc' := 0) (ms' := 0) (mc1 := 0) (ms1 := 0) (st := []) (b := 80) [vA 63, vA 1] dX8_sure_21 mwX0_drawnFor lkX8_207 (by decide) rfl rc_X0 rfl (Nat.le_of_ble_eq_true rfl) (by omega) rfl rfl (k_drawn_80 (N := N) (J := J) (by omega) hR hX.1 hC (fun h7 hF7 c7 t7 g7 => ?_))
      rw [hTe] at t7 g7
      show Aj γ mX8_sure d 0 0 Post 24 [(0, vA 0), (1, vI s), (2, vI m)] [vA 80] (mk h7 τ)
      refine a_aload_n (j := 0) dX8_sure_24 rfl rfl (Nat.le_of_ble_eq_true rfl) ?_
      refine b_getp (a := 0) (p := 63) dX8_sure_25 fwX8_24 (by decide) rfl (by decide) rfl rfl ?_
      refine a_iload_n (j := 1) dX8_sure_28 rfl rfl ?_
      refine a_iload_n (j := 2) dX8_sure_29 rfl rfl ?_
      refine b_callV (d' := d - 1) (mc' := 0) (ms' := 0) (mc1 := 0) (ms1 := 0) (st := []) (b := 80) [vA 63, vI s, vI m] dX8_sure_30 mwX0_worthAt lkX8_211 (by decide) rfl rc_X0 rfl (Nat.le_of_ble_eq_true rfl) (by omega) rfl rfl (c_X0_worthAt_80 (κ := 1) (T := T) (s := s) (m := m) (by omega) c7.2.2.1.1.2.1 rfl hT t7 (by omega) (by omega) (fun e1 e2 => g7 _ _ (by omega) (by omega) e1 (by omega) (by omega) (plT_mono (by omega))) ?_)
      show Aj γ mX8_sure d 0 0 Post 33 [(0, vA 0), (1, vI s), (2, vI m)] [vI (WT 1 T s m)] (mk h7 τ)
      refine a_goto (tgt := 38) dX8_sure_33 (by decide) ?_
      exact a_iret dX8_sure_38 rfl (post_v (kQ h7 hF7 c7) (by unfold vSure; rw [if_pos hin, hTe] <;> rfl))
    · have t3_1 : ¬ ((0 ≤ s ∧ s < (N 4)) ∧ (0 ≤ m ∧ m ≤ 2879)) := t3_1
      show Aj γ mX8_sure d 0 0 Post 6 [(0, vA 0), (1, vI s), (2, vI m)] [vI 0] (mk h τ)
      refine a_if_eq (tgt := 36) dX8_sure_6 (by decide) (fun _ => ?_) (fun c => absurd c (by decide))
      refine a_ldc (z := (-1000000001)) dX8_sure_36 kwX8_72 ⟨by decide, by decide, by decide⟩ ?_
      exact a_iret dX8_sure_38 rfl (absurd hin (by omega))
  · refine c_of (by decide) (Nat.le_of_ble_eq_true rfl) ?_
    show Aj γ mX8_sure d 0 0 Post 0 [(0, vA 0), (1, vI s), (2, vI m)] [] (mk h τ)
    refine a_aload_n (j := 0) dX8_sure_0 rfl rfl (Nat.le_of_ble_eq_true rfl) ?_
    refine a_iload_n (j := 1) dX8_sure_1 rfl rfl ?_
    refine a_iload_n (j := 2) dX8_sure_2 rfl rfl ?_
    refine b_callV (d' := d - 1) (mc' := 0) (ms' := 0) (mc1 := 0) (ms1 := 0) (st := []) (b := 0) [vI s, vI m] dX8_sure_3 mwX8_isPoint lkX8_204 (by decide) rfl rc_X8 rfl (Nat.le_of_ble_eq_true rfl) (by omega) rfl rfl (c_X8_isPoint (v1 := (N 4)) (by omega)  hR.1.1 (show 0 ≤ (N 4) ∧ (N 4) ≤ 6 by omega) (fun t3_1 => ?_) (fun t3_1 => ?_))
    · have t3_1 : (0 ≤ s ∧ s < (N 4)) ∧ (0 ≤ m ∧ m ≤ 2879) := t3_1
      show Aj γ mX8_sure d 0 0 Post 6 [(0, vA 0), (1, vI s), (2, vI m)] [vI 1] (mk h τ)
      refine a_if_eq (tgt := 36) dX8_sure_6 (by decide) (fun c => absurd c (by decide)) (fun _ => ?_)
      exact absurd (by omega) hin
    · have t3_1 : ¬ ((0 ≤ s ∧ s < (N 4)) ∧ (0 ≤ m ∧ m ≤ 2879)) := t3_1
      show Aj γ mX8_sure d 0 0 Post 6 [(0, vA 0), (1, vI s), (2, vI m)] [vI 0] (mk h τ)
      refine a_if_eq (tgt := 36) dX8_sure_6 (by decide) (fun _ => ?_) (fun c => absurd c (by decide))
      refine a_ldc (z := (-1000000001)) dX8_sure_36 kwX8_72 ⟨by decide, by decide, by decide⟩ ?_
      exact a_iret dX8_sure_38 rfl (post_v (kQ h Fr_r hC) (by unfold vSure; rw [if_neg hin]))
set_option maxHeartbeats 8000000 in
theorem q_X9_sure {γ : GT} {d : Nat} {s m : Int} {N : Nat → Int} {h : Nat → Nat → Int} {τ : List AC} {Post : Option AV → List AC → Prop} (hd : 12 ≤ d) (hN : h 124 = N) (hX : NX N) (hC : RC h N) (kQ : ∀ h', Fr [123, 127, 128, 129, 130, 131, 132, 133, 134, 135, 136, 143, 144] h h' → K3 h h' → RC h' N → Post (some (vI (vSure N s m))) (mk h' τ)) : Cj γ mX9_sure d 0 0 [vA 123, vI s, vI m] (mk h τ) Post := by
  have hsc := hX.1.1
  have hs1 := hsc.1
  have hs2 := hsc.2.1
  have hs3 := hsc.2.2.1
  have hs4 := hsc.2.2.2.1
  have hs5 := hsc.2.2.2.2
  have hx7 := hX.2.1
  have hx8 := hX.2.2.2.1
  obtain ⟨T, hTe⟩ : ∃ T, tt N = T := ⟨_, rfl⟩
  have hT : tOK T := hTe ▸ tt_OK hX.1
  have hNT : NTr N T := hTe ▸ NT_tt hX.1
  have e02 : N 5 = T 0 2 := hNT.1.2.2.1
  have e03 : N 4 = T 0 3 := hNT.1.2.2.2
  by_cases hin : (0 ≤ s ∧ s < N 4) ∧ (0 ≤ m ∧ m ≤ 2879)
  · skip
    refine c_of (by decide) (Nat.le_of_ble_eq_true rfl) ?_
    show Aj γ mX9_sure d 0 0 Post 0 [(0, vA 123), (1, vI s), (2, vI m)] [] (mk h τ)
    refine a_aload_n (j := 0) dX9_sure_0 rfl rfl (Nat.le_of_ble_eq_true rfl) ?_
    refine a_iload_n (j := 1) dX9_sure_1 rfl rfl ?_
    refine a_iload_n (j := 2) dX9_sure_2 rfl rfl ?_
    refine b_callV (d' := d - 1) (mc' := 0) (ms' := 0) (mc1 := 0) (ms1 := 0) (st := []) (b := 123) [vI s, vI m] dX9_sure_3 mwX9_isPlace lkX9_219 (by decide) rfl rc_X9 rfl (Nat.le_of_ble_eq_true rfl) (by omega) rfl rfl (c_X9_isPlace (v1 := (N 4)) (by omega)  (congrFun hN _) (show 0 ≤ (N 4) ∧ (N 4) ≤ 6 by omega) (fun t3_1 => ?_) (fun t3_1 => ?_))
    · have t3_1 : (0 ≤ s ∧ s < (N 4)) ∧ (0 ≤ m ∧ m ≤ 2879) := t3_1
      show Aj γ mX9_sure d 0 0 Post 6 [(0, vA 123), (1, vI s), (2, vI m)] [vI 1] (mk h τ)
      refine a_if_ne (tgt := 12) dX9_sure_6 (by decide) (fun _ => ?_) (fun c => absurd c (by decide))
      refine a_aload_n (j := 0) dX9_sure_12 rfl rfl (Nat.le_of_ble_eq_true rfl) ?_
      refine a_iload_n (j := 2) dX9_sure_13 rfl rfl ?_
      refine b_callV (d' := d - 1) (mc' := 0) (ms' := 0) (mc1 := 0) (ms1 := 0) (st := []) (b := 123) [vI m] dX9_sure_14 mwX9_learnsFrom lkX9_222 (by decide) rfl rc_X9 rfl (Nat.le_of_ble_eq_true rfl) (by omega) rfl rfl (k_from (N := N) (mi := m) (by omega) hN hX.1 hC (by omega) (fun h7 hF7 k7 c7 t7 g7 => ?_))
      rw [hTe] at t7 g7
      show Aj γ mX9_sure d 0 0 Post 17 [(0, vA 123), (1, vI s), (2, vI m)] [] (mk h7 τ)
      refine a_aload_n (j := 0) dX9_sure_17 rfl rfl (Nat.le_of_ble_eq_true rfl) ?_
      refine a_iload_n (j := 1) dX9_sure_18 rfl rfl ?_
      refine a_iload_n (j := 2) dX9_sure_19 rfl rfl ?_
      refine b_callV (d' := d - 1) (mc' := 0) (ms' := 0) (mc1 := 0) (ms1 := 0) (st := []) (b := 123) [vI s, vI m] dX9_sure_20 mwX9_sureAt lkX9_209 (by decide) rfl rc_X9 rfl (Nat.le_of_ble_eq_true rfl) (by omega) rfl rfl (c_X9_sureAtW (T := T) (lo := m) (by omega) hT t7 g7 (by omega) (by omega) (by omega) ?_)
      show Aj γ mX9_sure d 0 0 Post 23 [(0, vA 123), (1, vI s), (2, vI m)] [vI (WT 1 T s m)] (mk h7 τ)
      exact a_iret dX9_sure_23 rfl (post_v (kQ h7 hF7 k7 c7) (by unfold vSure; rw [if_pos hin, hTe] <;> rfl))
    · have t3_1 : ¬ ((0 ≤ s ∧ s < (N 4)) ∧ (0 ≤ m ∧ m ≤ 2879)) := t3_1
      show Aj γ mX9_sure d 0 0 Post 6 [(0, vA 123), (1, vI s), (2, vI m)] [vI 0] (mk h τ)
      refine a_if_ne (tgt := 12) dX9_sure_6 (by decide) (fun c => absurd c (by decide)) (fun _ => ?_)
      refine a_ldc (z := (-1000000001)) dX9_sure_9 kwX9_146 ⟨by decide, by decide, by decide⟩ ?_
      exact a_iret dX9_sure_11 rfl (absurd hin (by omega))
  · refine c_of (by decide) (Nat.le_of_ble_eq_true rfl) ?_
    show Aj γ mX9_sure d 0 0 Post 0 [(0, vA 123), (1, vI s), (2, vI m)] [] (mk h τ)
    refine a_aload_n (j := 0) dX9_sure_0 rfl rfl (Nat.le_of_ble_eq_true rfl) ?_
    refine a_iload_n (j := 1) dX9_sure_1 rfl rfl ?_
    refine a_iload_n (j := 2) dX9_sure_2 rfl rfl ?_
    refine b_callV (d' := d - 1) (mc' := 0) (ms' := 0) (mc1 := 0) (ms1 := 0) (st := []) (b := 123) [vI s, vI m] dX9_sure_3 mwX9_isPlace lkX9_219 (by decide) rfl rc_X9 rfl (Nat.le_of_ble_eq_true rfl) (by omega) rfl rfl (c_X9_isPlace (v1 := (N 4)) (by omega)  (congrFun hN _) (show 0 ≤ (N 4) ∧ (N 4) ≤ 6 by omega) (fun t3_1 => ?_) (fun t3_1 => ?_))
    · have t3_1 : (0 ≤ s ∧ s < (N 4)) ∧ (0 ≤ m ∧ m ≤ 2879) := t3_1
      show Aj γ mX9_sure d 0 0 Post 6 [(0, vA 123), (1, vI s), (2, vI m)] [vI 1] (mk h τ)
      refine a_if_ne (tgt := 12) dX9_sure_6 (by decide) (fun _ => ?_) (fun c => absurd c (by decide))
      exact absurd (by omega) hin
    · have t3_1 : ¬ ((0 ≤ s ∧ s < (N 4)) ∧ (0 ≤ m ∧ m ≤ 2879)) := t3_1
      show Aj γ mX9_sure d 0 0 Post 6 [(0, vA 123), (1, vI s), (2, vI m)] [vI 0] (mk h τ)
      refine a_if_ne (tgt := 12) dX9_sure_6 (by decide) (fun c => absurd c (by decide)) (fun _ => ?_)
      refine a_ldc (z := (-1000000001)) dX9_sure_9 kwX9_146 ⟨by decide, by decide, by decide⟩ ?_
      exact a_iret dX9_sure_11 rfl (post_v (kQ h Fr_r K3_r hC) (by unfold vSure; rw [if_neg hin]))
set_option maxHeartbeats 8000000 in
theorem q_X8_cheap {γ : GT} {d : Nat} {s m : Int} {N J : Nat → Int} {h : Nat → Nat → Int} {τ : List AC} {Post : Option AV → List AC → Prop} (hd : 12 ≤ d) (hR : WR h τ 1 N) (hX : NX N) (hC : CC h N J) (kQ : ∀ h', Fr [63, 64, 65, 66, 67, 68, 69, 70, 71, 72, 73, 74, 75, 76, 77, 78, 79, 80, 81, 82, 83] h h' → CC h' N J → Post (some (vI (vCheap N s m))) (mk h' τ)) : Cj γ mX8_cheap d 0 0 [vA 0, vI s, vI m] (mk h τ) Post := by
  have hsc := hX.1.1
  have hs1 := hsc.1
  have hs2 := hsc.2.1
  have hs3 := hsc.2.2.1
  have hs4 := hsc.2.2.2.1
  have hs5 := hsc.2.2.2.2
  have hx7 := hX.2.1
  have hx8 := hX.2.2.2.1
  obtain ⟨T, hTe⟩ : ∃ T, tt N = T := ⟨_, rfl⟩
  have hT : tOK T := hTe ▸ tt_OK hX.1
  have hNT : NTr N T := hTe ▸ NT_tt hX.1
  have e02 : N 5 = T 0 2 := hNT.1.2.2.1
  have e03 : N 4 = T 0 3 := hNT.1.2.2.2
  by_cases hin : (0 ≤ s ∧ s < N 4) ∧ (0 ≤ m ∧ m ≤ 2879)
  · skip
    refine c_of (by decide) (Nat.le_of_ble_eq_true rfl) ?_
    show Aj γ mX8_cheap d 0 0 Post 0 [(0, vA 0), (1, vI s), (2, vI m)] [] (mk h τ)
    refine a_aload_n (j := 0) dX8_cheap_0 rfl rfl (Nat.le_of_ble_eq_true rfl) ?_
    refine a_iload_n (j := 1) dX8_cheap_1 rfl rfl ?_
    refine a_iload_n (j := 2) dX8_cheap_2 rfl rfl ?_
    refine b_callV (d' := d - 1) (mc' := 0) (ms' := 0) (mc1 := 0) (ms1 := 0) (st := []) (b := 0) [vI s, vI m] dX8_cheap_3 mwX8_isPoint lkX8_204 (by decide) rfl rc_X8 rfl (Nat.le_of_ble_eq_true rfl) (by omega) rfl rfl (c_X8_isPoint (v1 := (N 4)) (by omega)  hR.1.1 (show 0 ≤ (N 4) ∧ (N 4) ≤ 6 by omega) (fun t3_1 => ?_) (fun t3_1 => ?_))
    · have t3_1 : (0 ≤ s ∧ s < (N 4)) ∧ (0 ≤ m ∧ m ≤ 2879) := t3_1
      show Aj γ mX8_cheap d 0 0 Post 6 [(0, vA 0), (1, vI s), (2, vI m)] [vI 1] (mk h τ)
      refine a_if_ne (tgt := 12) dX8_cheap_6 (by decide) (fun _ => ?_) (fun c => absurd c (by decide))
      refine a_aload_n (j := 0) dX8_cheap_12 rfl rfl (Nat.le_of_ble_eq_true rfl) ?_
      refine b_getp (a := 0) (p := 82) dX8_cheap_13 fwX8_40 (by decide) rfl (by decide) rfl rfl ?_
      refine a_aload_n (j := 0) dX8_cheap_16 rfl rfl (Nat.le_of_ble_eq_true rfl) ?_
      refine b_getp (a := 0) (p := 63) dX8_cheap_17 fwX8_24 (by decide) rfl (by decide) rfl rfl ?_
      refine a_aload_n (j := 0) dX8_cheap_20 rfl rfl (Nat.le_of_ble_eq_true rfl) ?_
      refine b_getp (a := 0) (p := 1) dX8_cheap_21 fwX8_14 (by decide) rfl (by decide) rfl rfl ?_
      refine b_callV (d' := d - 1) (mc' := 0) (ms' := 0) (mc1 := 0) (ms1 := 0) (st := []) (b := 82) [vA 63, vA 1] dX8_cheap_24 mwX0_drawnFor lkX8_207 (by decide) rfl rc_X0 rfl (Nat.le_of_ble_eq_true rfl) (by omega) rfl rfl (k_drawn_82 (N := N) (J := J) (by omega) hR hX.1 hC (fun h7 hF7 c7 t7 g7 => ?_))
      rw [hTe] at t7 g7
      show Aj γ mX8_cheap d 0 0 Post 27 [(0, vA 0), (1, vI s), (2, vI m)] [vA 82] (mk h7 τ)
      refine a_aload_n (j := 0) dX8_cheap_27 rfl rfl (Nat.le_of_ble_eq_true rfl) ?_
      refine b_getp (a := 0) (p := 63) dX8_cheap_28 fwX8_24 (by decide) rfl (by decide) rfl rfl ?_
      refine a_iload_n (j := 1) dX8_cheap_31 rfl rfl ?_
      refine a_iload_n (j := 2) dX8_cheap_32 rfl rfl ?_
      refine b_callV (d' := d - 1) (mc' := 0) (ms' := 0) (mc1 := 0) (ms1 := 0) (st := []) (b := 82) [vA 63, vI s, vI m] dX8_cheap_33 mwX0_worthAt lkX8_211 (by decide) rfl rc_X0 rfl (Nat.le_of_ble_eq_true rfl) (by omega) rfl rfl (c_X0_worthAt_82 (κ := 2) (T := T) (s := s) (m := m) (by omega) c7.2.2.1.1.2.2 rfl hT t7 (by omega) (by omega) (fun e1 e2 => g7 _ _ (by omega) (by omega) e1 (by omega) (by omega) (plT_mono (by omega))) ?_)
      show Aj γ mX8_cheap d 0 0 Post 36 [(0, vA 0), (1, vI s), (2, vI m)] [vI (WT 2 T s m)] (mk h7 τ)
      refine a_istore_n (lv' := [(3, vI (WT 2 T s m)), (0, vA 0), (1, vI s), (2, vI m)]) dX8_cheap_36 rfl (by decide) rfl ?_
      refine a_iload_n (j := 0) dX8_cheap_37 rfl rfl ?_
      refine a_ldc (z := 2147483647) dX8_cheap_38 kwX8_218 ⟨by decide, by decide, by decide⟩ ?_
      refine a_icmp_ne (tgt := 48) dX8_cheap_40 (by decide) (fun c40_2 => ?_) (fun c40_2 => ?_)
      · refine a_iload_n (j := 0) dX8_cheap_48 rfl rfl ?_
        exact a_iret dX8_cheap_49 rfl (post_v (kQ h7 hF7 c7) (by unfold vCheap; rw [if_pos hin, hTe]; rw [if_neg (by omega)]))
      · refine a_ldc (z := (-1000000005)) dX8_cheap_43 kwX8_159 ⟨by decide, by decide, by decide⟩ ?_
        refine a_goto (tgt := 49) dX8_cheap_45 (by decide) ?_
        exact a_iret dX8_cheap_49 rfl (post_v (kQ h7 hF7 c7) (by unfold vCheap; rw [if_pos hin, hTe]; rw [if_pos (by omega)]))
    · have t3_1 : ¬ ((0 ≤ s ∧ s < (N 4)) ∧ (0 ≤ m ∧ m ≤ 2879)) := t3_1
      show Aj γ mX8_cheap d 0 0 Post 6 [(0, vA 0), (1, vI s), (2, vI m)] [vI 0] (mk h τ)
      refine a_if_ne (tgt := 12) dX8_cheap_6 (by decide) (fun c => absurd c (by decide)) (fun _ => ?_)
      refine a_ldc (z := (-1000000001)) dX8_cheap_9 kwX8_72 ⟨by decide, by decide, by decide⟩ ?_
      exact a_iret dX8_cheap_11 rfl (absurd hin (by omega))
  · refine c_of (by decide) (Nat.le_of_ble_eq_true rfl) ?_
    show Aj γ mX8_cheap d 0 0 Post 0 [(0, vA 0), (1, vI s), (2, vI m)] [] (mk h τ)
    refine a_aload_n (j := 0) dX8_cheap_0 rfl rfl (Nat.le_of_ble_eq_true rfl) ?_
    refine a_iload_n (j := 1) dX8_cheap_1 rfl rfl ?_
    refine a_iload_n (j := 2) dX8_cheap_2 rfl rfl ?_
    refine b_callV (d' := d - 1) (mc' := 0) (ms' := 0) (mc1 := 0) (ms1 := 0) (st := []) (b := 0) [vI s, vI m] dX8_cheap_3 mwX8_isPoint lkX8_204 (by decide) rfl rc_X8 rfl (Nat.le_of_ble_eq_true rfl) (by omega) rfl rfl (c_X8_isPoint (v1 := (N 4)) (by omega)  hR.1.1 (show 0 ≤ (N 4) ∧ (N 4) ≤ 6 by omega) (fun t3_1 => ?_) (fun t3_1 => ?_))
    · have t3_1 : (0 ≤ s ∧ s < (N 4)) ∧ (0 ≤ m ∧ m ≤ 2879) := t3_1
      show Aj γ mX8_cheap d 0 0 Post 6 [(0, vA 0), (1, vI s), (2, vI m)] [vI 1] (mk h τ)
      refine a_if_ne (tgt := 12) dX8_cheap_6 (by decide) (fun _ => ?_) (fun c => absurd c (by decide))
      exact absurd (by omega) hin
    · have t3_1 : ¬ ((0 ≤ s ∧ s < (N 4)) ∧ (0 ≤ m ∧ m ≤ 2879)) := t3_1
      show Aj γ mX8_cheap d 0 0 Post 6 [(0, vA 0), (1, vI s), (2, vI m)] [vI 0] (mk h τ)
      refine a_if_ne (tgt := 12) dX8_cheap_6 (by decide) (fun c => absurd c (by decide)) (fun _ => ?_)
      refine a_ldc (z := (-1000000001)) dX8_cheap_9 kwX8_72 ⟨by decide, by decide, by decide⟩ ?_
      exact a_iret dX8_cheap_11 rfl (post_v (kQ h Fr_r hC) (by unfold vCheap; rw [if_neg hin]))
set_option maxHeartbeats 8000000 in
theorem q_X9_cheap {γ : GT} {d : Nat} {s m : Int} {N : Nat → Int} {h : Nat → Nat → Int} {τ : List AC} {Post : Option AV → List AC → Prop} (hd : 12 ≤ d) (hN : h 124 = N) (hX : NX N) (hC : RC h N) (kQ : ∀ h', Fr [123, 127, 128, 129, 130, 131, 132, 133, 134, 135, 136, 143, 144] h h' → K3 h h' → RC h' N → Post (some (vI (vCheap N s m))) (mk h' τ)) : Cj γ mX9_cheap d 0 0 [vA 123, vI s, vI m] (mk h τ) Post := by
  have hsc := hX.1.1
  have hs1 := hsc.1
  have hs2 := hsc.2.1
  have hs3 := hsc.2.2.1
  have hs4 := hsc.2.2.2.1
  have hs5 := hsc.2.2.2.2
  have hx7 := hX.2.1
  have hx8 := hX.2.2.2.1
  obtain ⟨T, hTe⟩ : ∃ T, tt N = T := ⟨_, rfl⟩
  have hT : tOK T := hTe ▸ tt_OK hX.1
  have hNT : NTr N T := hTe ▸ NT_tt hX.1
  have e02 : N 5 = T 0 2 := hNT.1.2.2.1
  have e03 : N 4 = T 0 3 := hNT.1.2.2.2
  by_cases hin : (0 ≤ s ∧ s < N 4) ∧ (0 ≤ m ∧ m ≤ 2879)
  · skip
    refine c_of (by decide) (Nat.le_of_ble_eq_true rfl) ?_
    show Aj γ mX9_cheap d 0 0 Post 0 [(0, vA 123), (1, vI s), (2, vI m)] [] (mk h τ)
    refine a_aload_n (j := 0) dX9_cheap_0 rfl rfl (Nat.le_of_ble_eq_true rfl) ?_
    refine a_iload_n (j := 1) dX9_cheap_1 rfl rfl ?_
    refine a_iload_n (j := 2) dX9_cheap_2 rfl rfl ?_
    refine b_callV (d' := d - 1) (mc' := 0) (ms' := 0) (mc1 := 0) (ms1 := 0) (st := []) (b := 123) [vI s, vI m] dX9_cheap_3 mwX9_isPlace lkX9_219 (by decide) rfl rc_X9 rfl (Nat.le_of_ble_eq_true rfl) (by omega) rfl rfl (c_X9_isPlace (v1 := (N 4)) (by omega)  (congrFun hN _) (show 0 ≤ (N 4) ∧ (N 4) ≤ 6 by omega) (fun t3_1 => ?_) (fun t3_1 => ?_))
    · have t3_1 : (0 ≤ s ∧ s < (N 4)) ∧ (0 ≤ m ∧ m ≤ 2879) := t3_1
      show Aj γ mX9_cheap d 0 0 Post 6 [(0, vA 123), (1, vI s), (2, vI m)] [vI 1] (mk h τ)
      refine a_if_ne (tgt := 12) dX9_cheap_6 (by decide) (fun _ => ?_) (fun c => absurd c (by decide))
      refine a_aload_n (j := 0) dX9_cheap_12 rfl rfl (Nat.le_of_ble_eq_true rfl) ?_
      refine a_iload_n (j := 2) dX9_cheap_13 rfl rfl ?_
      refine b_callV (d' := d - 1) (mc' := 0) (ms' := 0) (mc1 := 0) (ms1 := 0) (st := []) (b := 123) [vI m] dX9_cheap_14 mwX9_learnsFrom lkX9_222 (by decide) rfl rc_X9 rfl (Nat.le_of_ble_eq_true rfl) (by omega) rfl rfl (k_from (N := N) (mi := m) (by omega) hN hX.1 hC (by omega) (fun h7 hF7 k7 c7 t7 g7 => ?_))
      rw [hTe] at t7 g7
      show Aj γ mX9_cheap d 0 0 Post 17 [(0, vA 123), (1, vI s), (2, vI m)] [] (mk h7 τ)
      refine a_aload_n (j := 0) dX9_cheap_17 rfl rfl (Nat.le_of_ble_eq_true rfl) ?_
      refine a_iload_n (j := 1) dX9_cheap_18 rfl rfl ?_
      refine a_iload_n (j := 2) dX9_cheap_19 rfl rfl ?_
      refine b_callV (d' := d - 1) (mc' := 0) (ms' := 0) (mc1 := 0) (ms1 := 0) (st := []) (b := 123) [vI s, vI m] dX9_cheap_20 mwX9_cheapAt lkX9_212 (by decide) rfl rc_X9 rfl (Nat.le_of_ble_eq_true rfl) (by omega) rfl rfl (c_X9_cheapAtW (T := T) (lo := m) (by omega) hT t7 g7 (by omega) (by omega) (by omega) ?_)
      show Aj γ mX9_cheap d 0 0 Post 23 [(0, vA 123), (1, vI s), (2, vI m)] [vI (mcF (WT 2 T s m))] (mk h7 τ)
      refine a_istore_n (lv' := [(3, vI (mcF (WT 2 T s m))), (0, vA 123), (1, vI s), (2, vI m)]) dX9_cheap_23 rfl (by decide) rfl ?_
      refine a_iload_n (j := 0) dX9_cheap_24 rfl rfl ?_
      refine a_ldc (z := 1000000000) dX9_cheap_25 kwX9_202 ⟨by decide, by decide, by decide⟩ ?_
      refine a_icmp_ne (tgt := 35) dX9_cheap_27 (by decide) (fun c27_2 => ?_) (fun c27_2 => ?_)
      · refine a_iload_n (j := 0) dX9_cheap_35 rfl rfl ?_
        exact a_iret dX9_cheap_36 rfl (post_v (kQ h7 hF7 k7 c7) (by unfold vCheap; rw [if_pos hin, hTe]; have hmc := mcF_c (WT 2 T s m); have hwr := WT2_rng hT (stop := s) (m := m) (by omega); rw [if_neg (by omega)]; omega))
      · refine a_ldc (z := (-1000000005)) dX9_cheap_30 kwX9_115 ⟨by decide, by decide, by decide⟩ ?_
        refine a_goto (tgt := 36) dX9_cheap_32 (by decide) ?_
        exact a_iret dX9_cheap_36 rfl (post_v (kQ h7 hF7 k7 c7) (by unfold vCheap; rw [if_pos hin, hTe]; have hmc := mcF_c (WT 2 T s m); have hwr := WT2_rng hT (stop := s) (m := m) (by omega); rw [if_pos (by omega)]))
    · have t3_1 : ¬ ((0 ≤ s ∧ s < (N 4)) ∧ (0 ≤ m ∧ m ≤ 2879)) := t3_1
      show Aj γ mX9_cheap d 0 0 Post 6 [(0, vA 123), (1, vI s), (2, vI m)] [vI 0] (mk h τ)
      refine a_if_ne (tgt := 12) dX9_cheap_6 (by decide) (fun c => absurd c (by decide)) (fun _ => ?_)
      refine a_ldc (z := (-1000000001)) dX9_cheap_9 kwX9_146 ⟨by decide, by decide, by decide⟩ ?_
      exact a_iret dX9_cheap_11 rfl (absurd hin (by omega))
  · refine c_of (by decide) (Nat.le_of_ble_eq_true rfl) ?_
    show Aj γ mX9_cheap d 0 0 Post 0 [(0, vA 123), (1, vI s), (2, vI m)] [] (mk h τ)
    refine a_aload_n (j := 0) dX9_cheap_0 rfl rfl (Nat.le_of_ble_eq_true rfl) ?_
    refine a_iload_n (j := 1) dX9_cheap_1 rfl rfl ?_
    refine a_iload_n (j := 2) dX9_cheap_2 rfl rfl ?_
    refine b_callV (d' := d - 1) (mc' := 0) (ms' := 0) (mc1 := 0) (ms1 := 0) (st := []) (b := 123) [vI s, vI m] dX9_cheap_3 mwX9_isPlace lkX9_219 (by decide) rfl rc_X9 rfl (Nat.le_of_ble_eq_true rfl) (by omega) rfl rfl (c_X9_isPlace (v1 := (N 4)) (by omega)  (congrFun hN _) (show 0 ≤ (N 4) ∧ (N 4) ≤ 6 by omega) (fun t3_1 => ?_) (fun t3_1 => ?_))
    · have t3_1 : (0 ≤ s ∧ s < (N 4)) ∧ (0 ≤ m ∧ m ≤ 2879) := t3_1
      show Aj γ mX9_cheap d 0 0 Post 6 [(0, vA 123), (1, vI s), (2, vI m)] [vI 1] (mk h τ)
      refine a_if_ne (tgt := 12) dX9_cheap_6 (by decide) (fun _ => ?_) (fun c => absurd c (by decide))
      exact absurd (by omega) hin
    · have t3_1 : ¬ ((0 ≤ s ∧ s < (N 4)) ∧ (0 ≤ m ∧ m ≤ 2879)) := t3_1
      show Aj γ mX9_cheap d 0 0 Post 6 [(0, vA 123), (1, vI s), (2, vI m)] [vI 0] (mk h τ)
      refine a_if_ne (tgt := 12) dX9_cheap_6 (by decide) (fun c => absurd c (by decide)) (fun _ => ?_)
      refine a_ldc (z := (-1000000001)) dX9_cheap_9 kwX9_146 ⟨by decide, by decide, by decide⟩ ?_
      exact a_iret dX9_cheap_11 rfl (post_v (kQ h Fr_r K3_r hC) (by unfold vCheap; rw [if_neg hin]))
set_option maxHeartbeats 8000000 in
theorem q_X8_why {γ : GT} {d : Nat} {k : Int} {N J : Nat → Int} {h : Nat → Nat → Int} {τ : List AC} {Post : Option AV → List AC → Prop} (hd : 12 ≤ d) (hR : WR h τ 1 N) (hX : NX N) (hC : CC h N J) (kQ : ∀ h', Fr [63, 64, 65, 66, 67, 68, 69, 70, 71, 72, 73, 74, 75, 76, 77, 78, 79, 80, 81, 82, 83] h h' → CC h' N J → Post (some (vI (vWhy N k))) (mk h' τ)) : Cj γ mX8_why d 0 0 [vA 0, vI k] (mk h τ) Post := by
  have hsc := hX.1.1
  have hs1 := hsc.1
  have hs2 := hsc.2.1
  have hs3 := hsc.2.2.1
  have hs4 := hsc.2.2.2.1
  have hs5 := hsc.2.2.2.2
  have hx7 := hX.2.1
  have hx8 := hX.2.2.2.1
  obtain ⟨T, hTe⟩ : ∃ T, tt N = T := ⟨_, rfl⟩
  have hT : tOK T := hTe ▸ tt_OK hX.1
  have hNT : NTr N T := hTe ▸ NT_tt hX.1
  have e02 : N 5 = T 0 2 := hNT.1.2.2.1
  have e03 : N 4 = T 0 3 := hNT.1.2.2.2
  by_cases hin : 0 ≤ k ∧ k ≤ 2
  · skip
    refine c_of (by decide) (Nat.le_of_ble_eq_true rfl) ?_
    show Aj γ mX8_why d 0 0 Post 0 [(0, vA 0), (1, vI k)] [] (mk h τ)
    refine a_iload_n (j := 1) dX8_why_0 rfl rfl ?_
    refine a_iconst dX8_why_1 ⟨by decide, by decide⟩ ?_
    refine a_iconst dX8_why_2 ⟨by decide, by decide⟩ ?_
    refine a_callS (d' := d - 1) (mc' := 0) (ms' := 0) (mc1 := 0) (ms1 := 0) (st := []) [vI k, vI 0, vI 2] dX8_why_3 mwX8_within lkX8_68 rfl (Nat.le_of_ble_eq_true rfl) (by omega) rfl rfl (c_X8_within  (by omega)    (fun t3_1 => ?_) (fun t3_1 => ?_))
    · have t3_1 : 0 ≤ k ∧ k ≤ 2 := t3_1
      show Aj γ mX8_why d 0 0 Post 6 [(0, vA 0), (1, vI k)] [vI 1] (mk h τ)
      refine a_if_eq (tgt := 20) dX8_why_6 (by decide) (fun c => absurd c (by decide)) (fun _ => ?_)
      refine a_aload_n (j := 0) dX8_why_9 rfl rfl (Nat.le_of_ble_eq_true rfl) ?_
      refine b_getp (a := 0) (p := 1) dX8_why_10 fwX8_14 (by decide) rfl (by decide) rfl rfl ?_
      refine a_iload_n (j := 1) dX8_why_13 rfl rfl ?_
      refine b_callV (d' := d - 1) (mc' := 0) (ms' := 0) (mc1 := 0) (ms1 := 0) (st := []) (b := 1) [vI k] dX8_why_14 mwX7_countingText lkX8_247 (by decide) rfl rc_X7 rfl (Nat.le_of_ble_eq_true rfl) (by omega) rfl rfl (c_X7_countingText (kx := fun t => N (173 + 2 * t) / 1000) (v := N 6) (by omega) (Or.inl rfl) hR.1.2.2.1 hX.1.2.2.2.1 (fun t ht => ?_) ?_)
      · obtain ⟨q, e, ft, e1, e2, _⟩ := hR.2.2.2.1 t (by have := hX.1.2.2.2.1; omega)
        exact ⟨q, ft, e, e1, e2⟩
      show Aj γ mX8_why d 0 0 Post 17 [(0, vA 0), (1, vI k)] [vI (hsF (cnN N k))] (mk h τ)
      refine a_goto (tgt := 22) dX8_why_17 (by decide) ?_
      exact a_iret dX8_why_22 rfl (post_v (kQ h Fr_r hC) (by unfold vWhy; rw [if_pos hin]))
    · have t3_1 : ¬ (0 ≤ k ∧ k ≤ 2) := t3_1
      show Aj γ mX8_why d 0 0 Post 6 [(0, vA 0), (1, vI k)] [vI 0] (mk h τ)
      refine a_if_eq (tgt := 20) dX8_why_6 (by decide) (fun _ => ?_) (fun c => absurd c (by decide))
      refine a_ldc (z := (-1000000001)) dX8_why_20 kwX8_72 ⟨by decide, by decide, by decide⟩ ?_
      exact a_iret dX8_why_22 rfl (absurd hin (by omega))
  · refine c_of (by decide) (Nat.le_of_ble_eq_true rfl) ?_
    show Aj γ mX8_why d 0 0 Post 0 [(0, vA 0), (1, vI k)] [] (mk h τ)
    refine a_iload_n (j := 1) dX8_why_0 rfl rfl ?_
    refine a_iconst dX8_why_1 ⟨by decide, by decide⟩ ?_
    refine a_iconst dX8_why_2 ⟨by decide, by decide⟩ ?_
    refine a_callS (d' := d - 1) (mc' := 0) (ms' := 0) (mc1 := 0) (ms1 := 0) (st := []) [vI k, vI 0, vI 2] dX8_why_3 mwX8_within lkX8_68 rfl (Nat.le_of_ble_eq_true rfl) (by omega) rfl rfl (c_X8_within  (by omega)    (fun t3_1 => ?_) (fun t3_1 => ?_))
    · have t3_1 : 0 ≤ k ∧ k ≤ 2 := t3_1
      show Aj γ mX8_why d 0 0 Post 6 [(0, vA 0), (1, vI k)] [vI 1] (mk h τ)
      refine a_if_eq (tgt := 20) dX8_why_6 (by decide) (fun c => absurd c (by decide)) (fun _ => ?_)
      exact absurd (by omega) hin
    · have t3_1 : ¬ (0 ≤ k ∧ k ≤ 2) := t3_1
      show Aj γ mX8_why d 0 0 Post 6 [(0, vA 0), (1, vI k)] [vI 0] (mk h τ)
      refine a_if_eq (tgt := 20) dX8_why_6 (by decide) (fun _ => ?_) (fun c => absurd c (by decide))
      refine a_ldc (z := (-1000000001)) dX8_why_20 kwX8_72 ⟨by decide, by decide, by decide⟩ ?_
      exact a_iret dX8_why_22 rfl (post_v (kQ h Fr_r hC) (by unfold vWhy; rw [if_neg hin]))
set_option maxHeartbeats 8000000 in
theorem q_X9_why {γ : GT} {d : Nat} {k : Int} {N : Nat → Int} {h : Nat → Nat → Int} {τ : List AC} {Post : Option AV → List AC → Prop} (hd : 12 ≤ d) (hN : h 124 = N) (hX : NX N) (hC : RC h N) (kQ : ∀ h', Fr [123, 127, 128, 129, 130, 131, 132, 133, 134, 135, 136, 143, 144] h h' → K3 h h' → RC h' N → Post (some (vI (vWhy N k))) (mk h' τ)) : Cj γ mX9_why d 0 0 [vA 123, vI k] (mk h τ) Post := by
  have hsc := hX.1.1
  have hs1 := hsc.1
  have hs2 := hsc.2.1
  have hs3 := hsc.2.2.1
  have hs4 := hsc.2.2.2.1
  have hs5 := hsc.2.2.2.2
  have hx7 := hX.2.1
  have hx8 := hX.2.2.2.1
  obtain ⟨T, hTe⟩ : ∃ T, tt N = T := ⟨_, rfl⟩
  have hT : tOK T := hTe ▸ tt_OK hX.1
  have hNT : NTr N T := hTe ▸ NT_tt hX.1
  have e02 : N 5 = T 0 2 := hNT.1.2.2.1
  have e03 : N 4 = T 0 3 := hNT.1.2.2.2
  by_cases hin : 0 ≤ k ∧ k ≤ 2
  · skip
    refine c_of (by decide) (Nat.le_of_ble_eq_true rfl) ?_
    show Aj γ mX9_why d 0 0 Post 0 [(0, vA 123), (1, vI k)] [] (mk h τ)
    refine a_iload_n (j := 1) dX9_why_0 rfl rfl ?_
    refine a_iconst dX9_why_1 ⟨by decide, by decide⟩ ?_
    refine a_iconst dX9_why_2 ⟨by decide, by decide⟩ ?_
    refine a_callS (d' := d - 1) (mc' := 0) (ms' := 0) (mc1 := 0) (ms1 := 0) (st := []) [vI k, vI 0, vI 2] dX9_why_3 mwX9_in lkX9_103 rfl (Nat.le_of_ble_eq_true rfl) (by omega) rfl rfl (c_X9_in  (by omega)    (fun t3_1 => ?_) (fun t3_1 => ?_))
    · have t3_1 : 0 ≤ k ∧ k ≤ 2 := t3_1
      show Aj γ mX9_why d 0 0 Post 6 [(0, vA 123), (1, vI k)] [vI 1] (mk h τ)
      refine a_if_ne (tgt := 12) dX9_why_6 (by decide) (fun _ => ?_) (fun c => absurd c (by decide))
      refine a_aload_n (j := 0) dX9_why_12 rfl rfl (Nat.le_of_ble_eq_true rfl) ?_
      refine a_iload_n (j := 1) dX9_why_13 rfl rfl ?_
      refine b_callV (d' := d - 1) (mc' := 0) (ms' := 0) (mc1 := 0) (ms1 := 0) (st := []) (b := 123) [vI k] dX9_why_14 mwX9_counts lkX9_116 (by decide) rfl rc_X9 rfl (Nat.le_of_ble_eq_true rfl) (by omega) rfl rfl (c_X9_counts (v := N 6) (by omega) (congrFun hN 6) hX.1.2.2.2.1 (by rw [hN]; exact hX.1.2.2.2.2.1) ?_)
      rw [hN]
      show Aj γ mX9_why d 0 0 Post 17 [(0, vA 123), (1, vI k)] [vI (cnN N k)] (mk h τ)
      refine a_istore_n (lv' := [(2, vI (cnN N k)), (0, vA 123), (1, vI k)]) dX9_why_17 rfl (by decide) rfl ?_
      refine a_iload_n (j := 0) dX9_why_18 rfl rfl ?_
      refine a_if_ge (tgt := 27) dX9_why_19 (by decide) (fun c19_2 => ?_) (fun c19_2 => ?_)
      · refine a_iload_n (j := 0) dX9_why_27 rfl rfl ?_
        exact a_iret dX9_why_28 rfl (post_v (kQ h Fr_r K3_r hC) (by unfold vWhy hsF; rw [if_pos hin]; rw [if_neg (by omega)]))
      · refine a_ldc (z := (-1000000005)) dX9_why_22 kwX9_115 ⟨by decide, by decide, by decide⟩ ?_
        refine a_goto (tgt := 28) dX9_why_24 (by decide) ?_
        exact a_iret dX9_why_28 rfl (post_v (kQ h Fr_r K3_r hC) (by unfold vWhy hsF; rw [if_pos hin]; rw [if_pos (by omega)]))
    · have t3_1 : ¬ (0 ≤ k ∧ k ≤ 2) := t3_1
      show Aj γ mX9_why d 0 0 Post 6 [(0, vA 123), (1, vI k)] [vI 0] (mk h τ)
      refine a_if_ne (tgt := 12) dX9_why_6 (by decide) (fun c => absurd c (by decide)) (fun _ => ?_)
      refine a_ldc (z := (-1000000001)) dX9_why_9 kwX9_146 ⟨by decide, by decide, by decide⟩ ?_
      exact a_iret dX9_why_11 rfl (absurd hin (by omega))
  · refine c_of (by decide) (Nat.le_of_ble_eq_true rfl) ?_
    show Aj γ mX9_why d 0 0 Post 0 [(0, vA 123), (1, vI k)] [] (mk h τ)
    refine a_iload_n (j := 1) dX9_why_0 rfl rfl ?_
    refine a_iconst dX9_why_1 ⟨by decide, by decide⟩ ?_
    refine a_iconst dX9_why_2 ⟨by decide, by decide⟩ ?_
    refine a_callS (d' := d - 1) (mc' := 0) (ms' := 0) (mc1 := 0) (ms1 := 0) (st := []) [vI k, vI 0, vI 2] dX9_why_3 mwX9_in lkX9_103 rfl (Nat.le_of_ble_eq_true rfl) (by omega) rfl rfl (c_X9_in  (by omega)    (fun t3_1 => ?_) (fun t3_1 => ?_))
    · have t3_1 : 0 ≤ k ∧ k ≤ 2 := t3_1
      show Aj γ mX9_why d 0 0 Post 6 [(0, vA 123), (1, vI k)] [vI 1] (mk h τ)
      refine a_if_ne (tgt := 12) dX9_why_6 (by decide) (fun _ => ?_) (fun c => absurd c (by decide))
      exact absurd (by omega) hin
    · have t3_1 : ¬ (0 ≤ k ∧ k ≤ 2) := t3_1
      show Aj γ mX9_why d 0 0 Post 6 [(0, vA 123), (1, vI k)] [vI 0] (mk h τ)
      refine a_if_ne (tgt := 12) dX9_why_6 (by decide) (fun c => absurd c (by decide)) (fun _ => ?_)
      refine a_ldc (z := (-1000000001)) dX9_why_9 kwX9_146 ⟨by decide, by decide, by decide⟩ ?_
      exact a_iret dX9_why_11 rfl (post_v (kQ h Fr_r K3_r hC) (by unfold vWhy; rw [if_neg hin]))
