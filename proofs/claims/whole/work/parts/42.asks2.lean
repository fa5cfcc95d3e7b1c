def vTold (N : Nat → Int) (t q : Int) : Int := if (0 ≤ t ∧ t < N 5) ∧ (0 ≤ q ∧ q ≤ 17) then (if 14 ≤ q then tt N 9 (4 * Int.toNat t + Int.toNat (q - 14)) + tt N 4 (Int.toNat t) else if 10 ≤ q then N (22 + 11 * Int.toNat t + Int.toNat (q - 10)) else if q = 7 then tt N 6 (Int.toNat t) else if q = 8 then tt N 7 (Int.toNat t) else if q = 6 then hsF (N (21 + 11 * Int.toNat t)) else if q = 0 then N (15 + 11 * Int.toNat t) else if q = 1 then N (16 + 11 * Int.toNat t) else if q = 2 then N (17 + 11 * Int.toNat t) else if q = 3 then N (18 + 11 * Int.toNat t) else if q = 4 then N (19 + 11 * Int.toNat t) else if q = 5 then N (20 + 11 * Int.toNat t) else farF (N (15 + 11 * Int.toNat t)) (N (20 + 11 * Int.toNat t))) else -1000000001
def ltP (T : Nat → Nat → Int) (s q : Int) : Nat → Prop := fun i => q ≤ WT 1 T s (1469 - (i : Int))
def ltF (r : Int) : Int := if r < 0 then -1000000005 else 1469 - r
noncomputable def vLatest (N : Nat → Int) (s q : Int) : Int := if (0 ≤ s ∧ s < N 4) ∧ (0 ≤ q ∧ q ≤ 10000) then ltF (fndV (ltP (tt N) s q) 0 1470) else -1000000001
def gaV (N : Nat → Int) (g : Nat) : Int := WT 0 (tt N) (N (153 + 2 * g)) (N (153 + 2 * g + 1))
def gaS (N : Nat → Int) : Nat → Int × Int
  | 0 => (-1, 0)
  | g + 1 => if (gaS N g).1 < gaV N g then (gaV N g, (g : Int)) else gaS N g
def vGather (N : Nat → Int) (q : Int) : Int := if 0 ≤ q ∧ q ≤ 1 then (if N 8 = 0 then -1000000005 else if q = 0 then (gaS N (Int.toNat (N 8))).1 else (gaS N (Int.toNat (N 8))).2) else -1000000001
theorem ga_y {N : Nat → Int} {g : Nat} {x y : Int} (h : gaS N g = (x, y)) (c : x < gaV N g) : gaS N (g + 1) = (gaV N g, (g : Int)) := by
  show (if (gaS N g).1 < gaV N g then (gaV N g, (g : Int)) else gaS N g) = _
  rw [h, if_pos c]
theorem ga_n {N : Nat → Int} {g : Nat} {x y : Int} (h : gaS N g = (x, y)) (c : ¬ x < gaV N g) : gaS N (g + 1) = (x, y) := by
  show (if (gaS N g).1 < gaV N g then (gaV N g, (g : Int)) else gaS N g) = _
  rw [h, if_neg c]
set_option maxHeartbeats 8000000 in
theorem q_X8_told {γ : GT} {d : Nat} {t q : Int} {N J : Nat → Int} {h : Nat → Nat → Int} {τ : List AC} {Post : Option AV → List AC → Prop} (hd : 12 ≤ d) (hR : WR h τ 1 N) (hX : NX N) (hC : CC h N J) (kQ : ∀ h', Fr [63, 64, 65, 66, 67, 68, 69, 70, 71, 72, 73, 74, 75, 76, 77, 78, 79, 80, 81, 82, 83] h h' → CC h' N J → Post (some (vI (vTold N t q))) (mk h' τ)) : Cj γ mX8_told d 0 0 [vA 0, vI t, vI q] (mk h τ) Post := by
  have hsc := hX.1.1
  have hs1 := hsc.1
  have hs2 := hsc.2.1
  have hs3 := hsc.2.2.1
  have hs4 := hsc.2.2.2.1
  have hs5 := hsc.2.2.2.2
  have hx7 := hX.2.1
  have hx8 := hX.2.2.2.1
  obtain ⟨T, hTe⟩ : ∃ T, tt N = T := ⟨_, rfl⟩
  have hT : tOK T := hTe ▸ tt_OK hX.1
  have hNT : NTr N T := hTe ▸ NT_tt hX.1
  have e02 : N 5 = T 0 2 := hNT.1.2.2.1
  have e03 : N 4 = T 0 3 := hNT.1.2.2.2
  by_cases hin : (0 ≤ t ∧ t < N 5) ∧ (0 ≤ q ∧ q ≤ 17)
  · obtain ⟨tn, rfl⟩ : ∃ tn : Nat, t = (tn : Int) := ⟨Int.toNat t, by omega⟩
    have qa := hT.2.2.2.2.2 tn
    have qa3 := qa.2.1
    have qa4 := qa.2.2.1
    have qa5 := qa.2.2.2.1
    have qa6 := qa.2.2.2.2.1
    have qa7 := qa.2.2.2.2.2.1
    have qa8 := (qa.2.2.2.2.2.2.2 (by omega))
    have qaw := hT.2.2.2.2.1 (Int.toNat (T 3 tn))
    have htr := hX.1.2.2.1 tn (by omega)
    have ht6 := htr.2.2.2.2.2.1
    have et := hNT.2 tn (by omega)
    have et1 := et.1
    have et2 := et.2.1
    have et3 := et.2.2.1
    have et4 := et.2.2.2.1
    have et8 := et.2.2.2.2.2
    refine c_of (by decide) (Nat.le_of_ble_eq_true rfl) ?_
    show Aj γ mX8_told d 0 0 Post 0 [(0, vA 0), (1, vI ((tn : Nat) : Int)), (2, vI q)] [] (mk h τ)
    refine a_aload_n (j := 0) dX8_told_0 rfl rfl (Nat.le_of_ble_eq_true rfl) ?_
    refine b_getp (a := 0) (p := 1) dX8_told_1 fwX8_14 (by decide) rfl (by decide) rfl rfl ?_
    refine a_iload_n (j := 1) dX8_told_4 rfl rfl ?_
    refine b_callV (d' := d - 1) (mc' := 0) (ms' := 0) (mc1 := 0) (ms1 := 0) (st := []) (b := 1) [vI ((tn : Nat) : Int)] dX8_told_5 mwX7_isTrain lkX8_121 (by decide) rfl rc_X7 rfl (Nat.le_of_ble_eq_true rfl) (by omega) rfl rfl (c_X7_isTrain (v1 := (N 5)) (by omega) (Or.inl rfl) hR.1.2.1 (show 0 ≤ (N 5) ∧ (N 5) ≤ 12 by omega) (fun t5_1 => ?_) (fun t5_1 => ?_))
    · have t5_1 : 0 ≤ ((tn : Nat) : Int) ∧ ((tn : Nat) : Int) < (N 5) := t5_1
      show Aj γ mX8_told d 0 0 Post 8 [(0, vA 0), (1, vI ((tn : Nat) : Int)), (2, vI q)] [vI 1] (mk h τ)
      refine a_if_eq (tgt := 21) dX8_told_8 (by decide) (fun c => absurd c (by decide)) (fun _ => ?_)
      refine a_iload_n (j := 2) dX8_told_11 rfl rfl ?_
      refine a_iconst dX8_told_12 ⟨by decide, by decide⟩ ?_
      refine a_bipush dX8_told_13 ⟨by decide, by decide, by decide⟩ ?_
      refine a_callS (d' := d - 1) (mc' := 0) (ms' := 0) (mc1 := 0) (ms1 := 0) (st := []) [vI q, vI 0, vI 17] dX8_told_15 mwX8_within lkX8_68 rfl (Nat.le_of_ble_eq_true rfl) (by omega) rfl rfl (c_X8_within  (by omega)    (fun t15_2 => ?_) (fun t15_2 => ?_))
      · have t15_2 : 0 ≤ q ∧ q ≤ 17 := t15_2
        show Aj γ mX8_told d 0 0 Post 18 [(0, vA 0), (1, vI ((tn : Nat) : Int)), (2, vI q)] [vI 1] (mk h τ)
        refine a_if_ne (tgt := 24) dX8_told_18 (by decide) (fun _ => ?_) (fun c => absurd c (by decide))
        refine a_aload_n (j := 0) dX8_told_24 rfl rfl (Nat.le_of_ble_eq_true rfl) ?_
        refine b_getp (a := 0) (p := 1) dX8_told_25 fwX8_14 (by decide) rfl (by decide) rfl rfl ?_
        refine b_getp (a := 1) (p := 3) dX8_told_28 fwX8_105 (by decide) rfl (by decide) rfl rfl ?_
        refine a_iload_n (j := 1) dX8_told_31 rfl rfl ?_
        refine b_aaloadp (a := 3) (p := (8 + 2 * tn)) tn dX8_told_32 (by decide) rfl qa_18 rfl (by omega) (tr_a (Or.inl rfl : isWd 1) (show tn < 12 by omega)) ?_
        refine a_astore_n (lv' := [(3, vA (8 + 2 * tn)), (0, vA 0), (1, vI ((tn : Nat) : Int)), (2, vI q)]) dX8_told_33 rfl (by decide) (Nat.le_of_ble_eq_true rfl) rfl ?_
        refine a_iload_n (j := 3) dX8_told_34 rfl rfl ?_
        refine a_bipush dX8_told_35 ⟨by decide, by decide, by decide⟩ ?_
        refine a_icmp_lt (tgt := 64) dX8_told_37 (by decide) (fun c37_3 => ?_) (fun c37_3 => ?_)
        · refine a_iload_n (j := 3) dX8_told_64 rfl rfl ?_
          refine a_bipush dX8_told_65 ⟨by decide, by decide, by decide⟩ ?_
          refine a_icmp_lt (tgt := 80) dX8_told_67 (by decide) (fun c67_4 => ?_) (fun c67_4 => ?_)
          · refine a_iload_n (j := 3) dX8_told_80 rfl rfl ?_
            refine a_bipush dX8_told_81 ⟨by decide, by decide, by decide⟩ ?_
            refine a_icmp_eq (tgt := 92) dX8_told_83 (by decide) (fun c83_5 => ?_) (fun c83_5 => ?_)
            · refine a_aload_n (j := 1) dX8_told_92 rfl rfl (Nat.le_of_ble_eq_true rfl) ?_
              refine b_getp (a := 0) (p := 63) dX8_told_93 fwX8_24 (by decide) rfl (by decide) rfl rfl ?_
              refine a_aload_n (j := 1) dX8_told_96 rfl rfl (Nat.le_of_ble_eq_true rfl) ?_
              refine b_getp (a := 0) (p := 1) dX8_told_97 fwX8_14 (by decide) rfl (by decide) rfl rfl ?_
              refine b_callV (d' := d - 1) (mc' := 0) (ms' := 0) (mc1 := 0) (ms1 := 0) (st := []) (b := 63) [vA 1] dX8_told_100 mwX5_refresh lkX8_88 (by decide) rfl rc_X5 rfl (Nat.le_of_ble_eq_true rfl) (by omega) rfl rfl (k_refresh (N := N) (J := J) (by omega) hR hX.1 hC (fun h7 hF7 c7 t7 => ?_))
              rw [hTe] at t7
              show Aj γ mX8_told d 0 0 Post 103 [(3, vA (8 + 2 * tn)), (0, vA 0), (1, vI ((tn : Nat) : Int)), (2, vI q)] [] (mk h7 τ)
              refine a_iload_n (j := 3) dX8_told_103 rfl rfl ?_
              refine a_bipush dX8_told_104 ⟨by decide, by decide, by decide⟩ ?_
              refine a_icmp_ne (tgt := 121) dX8_told_106 (by decide) (fun c106_6 => absurd c106_6 (by omega)) (fun c106_6 => ?_)
              refine a_aload_n (j := 1) dX8_told_109 rfl rfl (Nat.le_of_ble_eq_true rfl) ?_
              refine b_getp (a := 0) (p := 63) dX8_told_110 fwX8_24 (by decide) rfl (by decide) rfl rfl ?_
              refine b_getp (a := 63) (p := 69) dX8_told_113 fwX8_131 (by decide) rfl (by decide) rfl rfl ?_
              refine a_iload_n (j := 2) dX8_told_116 rfl rfl ?_
              refine b_iaload (a := 69) (z := T 6 tn) tn dX8_told_117 (by decide) rfl rfl (by omega) (sp_nil rfl _) (t7.2.2.1 tn (by omega)).2.2.2.2.1 (fun r117_7 => ?_)
              refine a_goto (tgt := 130) dX8_told_118 (by decide) ?_
              exact a_iret dX8_told_130 rfl (post_v (kQ h7 hF7 c7) (by unfold vTold; simp only [Int.toNat_natCast]; rw [if_pos (by omega), if_neg (by omega), if_neg (by omega), if_pos (by omega), hTe] <;> first | rfl | omega))
            · refine a_iload_n (j := 3) dX8_told_86 rfl rfl ?_
              refine a_bipush dX8_told_87 ⟨by decide, by decide, by decide⟩ ?_
              refine a_icmp_ne (tgt := 131) dX8_told_89 (by decide) (fun c89_8 => ?_) (fun c89_8 => ?_)
              · refine a_aload_n (j := 0) dX8_told_131 rfl rfl (Nat.le_of_ble_eq_true rfl) ?_
                refine a_iload_n (j := 3) dX8_told_132 rfl rfl ?_
                refine b_callV (d' := d - 1) (mc' := 0) (ms' := 0) (mc1 := 0) (ms1 := 0) (st := []) (b := (8 + 2 * tn)) [vI q] dX8_told_133 mwX6_figure lkX8_137 (by have := (tr_w (Or.inl rfl : isWd 1) (show tn < 12 by omega)).1; omega) (tr_w (Or.inl rfl : isWd 1) (show tn < 12 by omega)).2.1 rc_X6 rfl (Nat.le_of_ble_eq_true rfl) (by omega) rfl rfl (c_X6_figure (v1 := (N (20 + 11 * tn))) (v2 := (N (15 + 11 * tn))) (v3 := (N (16 + 11 * tn))) (v4 := (N (17 + 11 * tn))) (v5 := (N (18 + 11 * tn))) (v6 := (N (19 + 11 * tn))) (v7 := (hsF (N (21 + 11 * tn)))) (by omega) (tr_w (Or.inl rfl : isWd 1) (show tn < 12 by omega)) (hR.2.2.1 tn (by omega)).2.2.2.2.2.1 (hR.2.2.1 tn (by omega)).1 (hR.2.2.1 tn (by omega)).2.1 (hR.2.2.1 tn (by omega)).2.2.1 (hR.2.2.1 tn (by omega)).2.2.2.1 (hR.2.2.1 tn (by omega)).2.2.2.2.1 (hR.2.2.1 tn (by omega)).2.2.2.2.2.2.1 (show 0 ≤ (N (20 + 11 * tn)) ∧ (N (20 + 11 * tn)) ≤ 999 by omega) (fun c1_1_9 => ?_) (fun c1_1_9 => ?_) (fun c1_1_9 => ?_) (fun c1_1_9 => ?_) (fun c1_1_9 => ?_) (fun c1_1_9 => ?_) (fun c1_1_9 => ?_) (fun c1_1_9 => ?_))
                · have c1_1_9 : q = 0 := c1_1_9
                  show Aj γ mX8_told d 0 0 Post 136 [(3, vA (8 + 2 * tn)), (0, vA 0), (1, vI ((tn : Nat) : Int)), (2, vI q)] [vI (N (15 + 11 * tn))] (mk h τ)
                  exact a_iret dX8_told_136 rfl (post_v (kQ h Fr_r hC) (by unfold vTold; simp only [Int.toNat_natCast]; rw [if_pos (by omega), if_neg (by omega), if_neg (by omega), if_neg (by omega), if_neg (by omega), if_neg (by omega), if_pos (by omega)] <;> first | rfl | omega))
                · have c1_1_9 : q = 1 := c1_1_9
                  show Aj γ mX8_told d 0 0 Post 136 [(3, vA (8 + 2 * tn)), (0, vA 0), (1, vI ((tn : Nat) : Int)), (2, vI q)] [vI (N (16 + 11 * tn))] (mk h τ)
                  exact a_iret dX8_told_136 rfl (post_v (kQ h Fr_r hC) (by unfold vTold; simp only [Int.toNat_natCast]; rw [if_pos (by omega), if_neg (by omega), if_neg (by omega), if_neg (by omega), if_neg (by omega), if_neg (by omega), if_neg (by omega), if_pos (by omega)] <;> first | rfl | omega))
                · have c1_1_9 : q = 2 := c1_1_9
                  show Aj γ mX8_told d 0 0 Post 136 [(3, vA (8 + 2 * tn)), (0, vA 0), (1, vI ((tn : Nat) : Int)), (2, vI q)] [vI (N (17 + 11 * tn))] (mk h τ)
                  exact a_iret dX8_told_136 rfl (post_v (kQ h Fr_r hC) (by unfold vTold; simp only [Int.toNat_natCast]; rw [if_pos (by omega), if_neg (by omega), if_neg (by omega), if_neg (by omega), if_neg (by omega), if_neg (by omega), if_neg (by omega), if_neg (by omega), if_pos (by omega)] <;> first | rfl | omega))
                · have c1_1_9 : q = 3 := c1_1_9
                  show Aj γ mX8_told d 0 0 Post 136 [(3, vA (8 + 2 * tn)), (0, vA 0), (1, vI ((tn : Nat) : Int)), (2, vI q)] [vI (N (18 + 11 * tn))] (mk h τ)
                  exact a_iret dX8_told_136 rfl (post_v (kQ h Fr_r hC) (by unfold vTold; simp only [Int.toNat_natCast]; rw [if_pos (by omega), if_neg (by omega), if_neg (by omega), if_neg (by omega), if_neg (by omega), if_neg (by omega), if_neg (by omega), if_neg (by omega), if_neg (by omega), if_pos (by omega)] <;> first | rfl | omega))
                · have c1_1_9 : q = 4 := c1_1_9
                  show Aj γ mX8_told d 0 0 Post 136 [(3, vA (8 + 2 * tn)), (0, vA 0), (1, vI ((tn : Nat) : Int)), (2, vI q)] [vI (N (19 + 11 * tn))] (mk h τ)
                  exact a_iret dX8_told_136 rfl (post_v (kQ h Fr_r hC) (by unfold vTold; simp only [Int.toNat_natCast]; rw [if_pos (by omega), if_neg (by omega), if_neg (by omega), if_neg (by omega), if_neg (by omega), if_neg (by omega), if_neg (by omega), if_neg (by omega), if_neg (by omega), if_neg (by omega), if_pos (by omega)] <;> first | rfl | omega))
                · have c1_1_9 : q = 5 := c1_1_9
                  show Aj γ mX8_told d 0 0 Post 136 [(3, vA (8 + 2 * tn)), (0, vA 0), (1, vI ((tn : Nat) : Int)), (2, vI q)] [vI (N (20 + 11 * tn))] (mk h τ)
                  exact a_iret dX8_told_136 rfl (post_v (kQ h Fr_r hC) (by unfold vTold; simp only [Int.toNat_natCast]; rw [if_pos (by omega), if_neg (by omega), if_neg (by omega), if_neg (by omega), if_neg (by omega), if_neg (by omega), if_neg (by omega), if_neg (by omega), if_neg (by omega), if_neg (by omega), if_neg (by omega), if_pos (by omega)] <;> first | rfl | omega))
                · have c1_1_9 : q = 6 := c1_1_9
                  show Aj γ mX8_told d 0 0 Post 136 [(3, vA (8 + 2 * tn)), (0, vA 0), (1, vI ((tn : Nat) : Int)), (2, vI q)] [vI (hsF (N (21 + 11 * tn)))] (mk h τ)
                  exact a_iret dX8_told_136 rfl (post_v (kQ h Fr_r hC) (by unfold vTold; simp only [Int.toNat_natCast]; rw [if_pos (by omega), if_neg (by omega), if_neg (by omega), if_neg (by omega), if_neg (by omega), if_pos (by omega)] <;> first | rfl | omega))
                · have c1_1_9 : ¬ q = 0 ∧ ¬ q = 1 ∧ ¬ q = 2 ∧ ¬ q = 3 ∧ ¬ q = 4 ∧ ¬ q = 5 ∧ ¬ q = 6 := c1_1_9
                  show Aj γ mX8_told d 0 0 Post 136 [(3, vA (8 + 2 * tn)), (0, vA 0), (1, vI ((tn : Nat) : Int)), (2, vI q)] [vI (farF (N (15 + 11 * tn)) (N (20 + 11 * tn)))] (mk h τ)
                  exact a_iret dX8_told_136 rfl (post_v (kQ h Fr_r hC) (by unfold vTold; simp only [Int.toNat_natCast]; rw [if_pos (by omega), if_neg (by omega), if_neg (by omega), if_neg (by omega), if_neg (by omega), if_neg (by omega), if_neg (by omega), if_neg (by omega), if_neg (by omega), if_neg (by omega), if_neg (by omega), if_neg (by omega)] <;> first | rfl | omega))
              · refine a_aload_n (j := 1) dX8_told_92 rfl rfl (Nat.le_of_ble_eq_true rfl) ?_
                refine b_getp (a := 0) (p := 63) dX8_told_93 fwX8_24 (by decide) rfl (by decide) rfl rfl ?_
                refine a_aload_n (j := 1) dX8_told_96 rfl rfl (Nat.le_of_ble_eq_true rfl) ?_
                refine b_getp (a := 0) (p := 1) dX8_told_97 fwX8_14 (by decide) rfl (by decide) rfl rfl ?_
                refine b_callV (d' := d - 1) (mc' := 0) (ms' := 0) (mc1 := 0) (ms1 := 0) (st := []) (b := 63) [vA 1] dX8_told_100 mwX5_refresh lkX8_88 (by decide) rfl rc_X5 rfl (Nat.le_of_ble_eq_true rfl) (by omega) rfl rfl (k_refresh (N := N) (J := J) (by omega) hR hX.1 hC (fun h7 hF7 c7 t7 => ?_))
                rw [hTe] at t7
                show Aj γ mX8_told d 0 0 Post 103 [(3, vA (8 + 2 * tn)), (0, vA 0), (1, vI ((tn : Nat) : Int)), (2, vI q)] [] (mk h7 τ)
                refine a_iload_n (j := 3) dX8_told_103 rfl rfl ?_
                refine a_bipush dX8_told_104 ⟨by decide, by decide, by decide⟩ ?_
                refine a_icmp_ne (tgt := 121) dX8_told_106 (by decide) (fun c106_11 => ?_) (fun c106_11 => absurd c106_11 (by omega))
                refine a_aload_n (j := 1) dX8_told_121 rfl rfl (Nat.le_of_ble_eq_true rfl) ?_
                refine b_getp (a := 0) (p := 63) dX8_told_122 fwX8_24 (by decide) rfl (by decide) rfl rfl ?_
                refine b_getp (a := 63) (p := 70) dX8_told_125 fwX8_134 (by decide) rfl (by decide) rfl rfl ?_
                refine a_iload_n (j := 2) dX8_told_128 rfl rfl ?_
                refine b_iaload (a := 70) (z := T 7 tn) tn dX8_told_129 (by decide) rfl rfl (by omega) (sp_nil rfl _) (t7.2.2.1 tn (by omega)).2.2.2.2.2.1 (fun r129_12 => ?_)
                exact a_iret dX8_told_130 rfl (post_v (kQ h7 hF7 c7) (by unfold vTold; simp only [Int.toNat_natCast]; rw [if_pos (by omega), if_neg (by omega), if_neg (by omega), if_neg (by omega), if_pos (by omega), hTe] <;> first | rfl | omega))
          · obtain ⟨s, hs⟩ : ∃ s : Nat, q - 10 = (s : Int) := ⟨Int.toNat (q - 10), by omega⟩
            refine a_aload_n (j := 0) dX8_told_70 rfl rfl (Nat.le_of_ble_eq_true rfl) ?_
            refine b_getp (a := (8 + 2 * tn)) (p := ((8 + 2 * tn) + 1)) dX8_told_71 fwX8_128 (by have := (tr_w (Or.inl rfl : isWd 1) (show tn < 12 by omega)).1; omega) (tr_w (Or.inl rfl : isWd 1) (show tn < 12 by omega)).2.1 (by decide) (tr_p (tr_w (Or.inl rfl : isWd 1) (show tn < 12 by omega))) rfl ?_
            refine a_iload_n (j := 3) dX8_told_74 rfl rfl ?_
            refine a_bipush dX8_told_75 ⟨by decide, by decide, by decide⟩ ?_
            refine a_isub (z := ((s : Nat) : Int)) dX8_told_77 (by rw [w_ok (by omega) (by omega)]; omega) ?_
            refine b_iaload (a := ((8 + 2 * tn) + 1)) (z := N (22 + 11 * tn + s)) s dX8_told_78 (tr_w (Or.inl rfl : isWd 1) (show tn < 12 by omega)).1 (tr_w (Or.inl rfl : isWd 1) (show tn < 12 by omega)).2.2.1 rfl (by omega) (tr_c (tr_w (Or.inl rfl : isWd 1) (show tn < 12 by omega))) ((hR.2.2.1 tn (by omega)).2.2.2.2.2.2.2 s (by omega)) (fun r78_13 => ?_)
            exact a_iret dX8_told_79 rfl (post_v (kQ h Fr_r hC) (by unfold vTold; simp only [Int.toNat_natCast]; rw [if_pos (by omega), if_neg (by omega), if_pos (by omega), show Int.toNat (q - 10) = s by omega]))
        · refine a_aload_n (j := 1) dX8_told_40 rfl rfl (Nat.le_of_ble_eq_true rfl) ?_
          refine b_getp (a := 0) (p := 63) dX8_told_41 fwX8_24 (by decide) rfl (by decide) rfl rfl ?_
          refine a_aload_n (j := 1) dX8_told_44 rfl rfl (Nat.le_of_ble_eq_true rfl) ?_
          refine b_getp (a := 0) (p := 1) dX8_told_45 fwX8_14 (by decide) rfl (by decide) rfl rfl ?_
          refine b_callV (d' := d - 1) (mc' := 0) (ms' := 0) (mc1 := 0) (ms1 := 0) (st := []) (b := 63) [vA 1] dX8_told_48 mwX5_refresh lkX8_88 (by decide) rfl rc_X5 rfl (Nat.le_of_ble_eq_true rfl) (by omega) rfl rfl (k_refresh (N := N) (J := J) (by omega) hR hX.1 hC (fun h7 hF7 c7 t7 => ?_))
          rw [hTe] at t7
          show Aj γ mX8_told d 0 0 Post 51 [(3, vA (8 + 2 * tn)), (0, vA 0), (1, vI ((tn : Nat) : Int)), (2, vI q)] [] (mk h7 τ)
          obtain ⟨s, hs⟩ : ∃ s : Nat, q - 14 = (s : Int) := ⟨Int.toNat (q - 14), by omega⟩
          have qa9s := qa.2.2.2.2.2.2.1 s (by omega)
          refine a_aload_n (j := 1) dX8_told_51 rfl rfl (Nat.le_of_ble_eq_true rfl) ?_
          refine b_getp (a := 0) (p := 63) dX8_told_52 fwX8_24 (by decide) rfl (by decide) rfl rfl ?_
          refine a_iload_n (j := 2) dX8_told_55 rfl rfl ?_
          refine a_iload_n (j := 3) dX8_told_56 rfl rfl ?_
          refine a_bipush dX8_told_57 ⟨by decide, by decide, by decide⟩ ?_
          refine a_isub (z := ((s : Nat) : Int)) dX8_told_59 (by rw [w_ok (by omega) (by omega)]; omega) ?_
          refine b_callV (d' := d - 1) (mc' := 0) (ms' := 0) (mc1 := 0) (ms1 := 0) (st := []) (b := 63) [vI ((tn : Nat) : Int), vI ((s : Nat) : Int)] dX8_told_60 mwX5_there lkX8_124 (by decide) rfl rc_X5 rfl (Nat.le_of_ble_eq_true rfl) (by omega) rfl rfl (c_X5_there (v1 := (T 9 (4 * tn + s))) (v2 := (T 4 tn)) (by omega)  ((congrArg (h7 72) (show (Int.toNat ((((tn : Nat) : Int) * 4) + ((s : Nat) : Int))) = (4 * tn + s) by omega)).trans ((t7.2.2.1 tn (by omega)).2.2.2.2.2.2 s (by omega)).2) ((congrArg (h7 67) (show (Int.toNat ((tn : Nat) : Int)) = tn by omega)).trans (t7.2.2.1 tn (by omega)).2.2.1) (show 0 ≤ ((tn : Nat) : Int) ∧ ((tn : Nat) : Int) ≤ 11 by omega) (show 0 ≤ ((s : Nat) : Int) ∧ ((s : Nat) : Int) ≤ 3 by omega) (show 0 ≤ (T 9 (4 * tn + s)) ∧ (T 9 (4 * tn + s)) ≤ 3000 by omega) (show 1 ≤ (T 4 tn) ∧ (T 4 tn) ≤ 600 by omega) ?_)
          show Aj γ mX8_told d 0 0 Post 63 [(3, vA (8 + 2 * tn)), (0, vA 0), (1, vI ((tn : Nat) : Int)), (2, vI q)] [vI ((T 9 (4 * tn + s)) + (T 4 tn))] (mk h7 τ)
          exact a_iret dX8_told_63 rfl (post_v (kQ h7 hF7 c7) (by unfold vTold; simp only [Int.toNat_natCast]; rw [if_pos (by omega), if_pos (by omega), show Int.toNat (q - 14) = s by omega, hTe]))
      · have t15_2 : ¬ (0 ≤ q ∧ q ≤ 17) := t15_2
        show Aj γ mX8_told d 0 0 Post 18 [(0, vA 0), (1, vI ((tn : Nat) : Int)), (2, vI q)] [vI 0] (mk h τ)
        refine a_if_ne (tgt := 24) dX8_told_18 (by decide) (fun c => absurd c (by decide)) (fun _ => ?_)
        refine a_ldc (z := (-1000000001)) dX8_told_21 kwX8_72 ⟨by decide, by decide, by decide⟩ ?_
        exact a_iret dX8_told_23 rfl (absurd hin (by omega))
    · have t5_1 : ¬ (0 ≤ ((tn : Nat) : Int) ∧ ((tn : Nat) : Int) < (N 5)) := t5_1
      show Aj γ mX8_told d 0 0 Post 8 [(0, vA 0), (1, vI ((tn : Nat) : Int)), (2, vI q)] [vI 0] (mk h τ)
      refine a_if_eq (tgt := 21) dX8_told_8 (by decide) (fun _ => ?_) (fun c => absurd c (by decide))
      refine a_ldc (z := (-1000000001)) dX8_told_21 kwX8_72 ⟨by decide, by decide, by decide⟩ ?_
      exact a_iret dX8_told_23 rfl (absurd hin (by omega))
  · refine c_of (by decide) (Nat.le_of_ble_eq_true rfl) ?_
    show Aj γ mX8_told d 0 0 Post 0 [(0, vA 0), (1, vI t), (2, vI q)] [] (mk h τ)
    refine a_aload_n (j := 0) dX8_told_0 rfl rfl (Nat.le_of_ble_eq_true rfl) ?_
    refine b_getp (a := 0) (p := 1) dX8_told_1 fwX8_14 (by decide) rfl (by decide) rfl rfl ?_
    refine a_iload_n (j := 1) dX8_told_4 rfl rfl ?_
    refine b_callV (d' := d - 1) (mc' := 0) (ms' := 0) (mc1 := 0) (ms1 := 0) (st := []) (b := 1) [vI t] dX8_told_5 mwX7_isTrain lkX8_121 (by decide) rfl rc_X7 rfl (Nat.le_of_ble_eq_true rfl) (by omega) rfl rfl (c_X7_isTrain (v1 := (N 5)) (by omega) (Or.inl rfl) hR.1.2.1 (show 0 ≤ (N 5) ∧ (N 5) ≤ 12 by omega) (fun t5_1 => ?_) (fun t5_1 => ?_))
    · have t5_1 : 0 ≤ t ∧ t < (N 5) := t5_1
      show Aj γ mX8_told d 0 0 Post 8 [(0, vA 0), (1, vI t), (2, vI q)] [vI 1] (mk h τ)
      refine a_if_eq (tgt := 21) dX8_told_8 (by decide) (fun c => absurd c (by decide)) (fun _ => ?_)
      refine a_iload_n (j := 2) dX8_told_11 rfl rfl ?_
      refine a_iconst dX8_told_12 ⟨by decide, by decide⟩ ?_
      refine a_bipush dX8_told_13 ⟨by decide, by decide, by decide⟩ ?_
      refine a_callS (d' := d - 1) (mc' := 0) (ms' := 0) (mc1 := 0) (ms1 := 0) (st := []) [vI q, vI 0, vI 17] dX8_told_15 mwX8_within lkX8_68 rfl (Nat.le_of_ble_eq_true rfl) (by omega) rfl rfl (c_X8_within  (by omega)    (fun t15_2 => ?_) (fun t15_2 => ?_))
      · have t15_2 : 0 ≤ q ∧ q ≤ 17 := t15_2
        show Aj γ mX8_told d 0 0 Post 18 [(0, vA 0), (1, vI t), (2, vI q)] [vI 1] (mk h τ)
        refine a_if_ne (tgt := 24) dX8_told_18 (by decide) (fun _ => ?_) (fun c => absurd c (by decide))
        exact absurd (by omega) hin
      · have t15_2 : ¬ (0 ≤ q ∧ q ≤ 17) := t15_2
        show Aj γ mX8_told d 0 0 Post 18 [(0, vA 0), (1, vI t), (2, vI q)] [vI 0] (mk h τ)
        refine a_if_ne (tgt := 24) dX8_told_18 (by decide) (fun c => absurd c (by decide)) (fun _ => ?_)
        refine a_ldc (z := (-1000000001)) dX8_told_21 kwX8_72 ⟨by decide, by decide, by decide⟩ ?_
        exact a_iret dX8_told_23 rfl (post_v (kQ h Fr_r hC) (by unfold vTold; rw [if_neg hin]))
    · have t5_1 : ¬ (0 ≤ t ∧ t < (N 5)) := t5_1
      show Aj γ mX8_told d 0 0 Post 8 [(0, vA 0), (1, vI t), (2, vI q)] [vI 0] (mk h τ)
      refine a_if_eq (tgt := 21) dX8_told_8 (by decide) (fun _ => ?_) (fun c => absurd c (by decide))
      refine a_ldc (z := (-1000000001)) dX8_told_21 kwX8_72 ⟨by decide, by decide, by decide⟩ ?_
      exact a_iret dX8_told_23 rfl (post_v (kQ h Fr_r hC) (by unfold vTold; rw [if_neg hin]))
set_option maxHeartbeats 8000000 in
theorem q_X9_told {γ : GT} {d : Nat} {t q : Int} {N : Nat → Int} {h : Nat → Nat → Int} {τ : List AC} {Post : Option AV → List AC → Prop} (hd : 12 ≤ d) (hN : h 124 = N) (hX : NX N) (hC : RC h N) (kQ : ∀ h', Fr [123, 127, 128, 129, 130, 131, 132, 133, 134, 135, 136, 143, 144] h h' → K3 h h' → RC h' N → Post (some (vI (vTold N t q))) (mk h' τ)) : Cj γ mX9_told d 0 0 [vA 123, vI t, vI q] (mk h τ) Post := by
  have hsc := hX.1.1
  have hs1 := hsc.1
  have hs2 := hsc.2.1
  have hs3 := hsc.2.2.1
  have hs4 := hsc.2.2.2.1
  have hs5 := hsc.2.2.2.2
  have hx7 := hX.2.1
  have hx8 := hX.2.2.2.1
  obtain ⟨T, hTe⟩ : ∃ T, tt N = T := ⟨_, rfl⟩
  have hT : tOK T := hTe ▸ tt_OK hX.1
  have hNT : NTr N T := hTe ▸ NT_tt hX.1
  have e02 : N 5 = T 0 2 := hNT.1.2.2.1
  have e03 : N 4 = T 0 3 := hNT.1.2.2.2
  by_cases hin : (0 ≤ t ∧ t < N 5) ∧ (0 ≤ q ∧ q ≤ 17)
  · obtain ⟨tn, rfl⟩ : ∃ tn : Nat, t = (tn : Int) := ⟨Int.toNat t, by omega⟩
    have qa := hT.2.2.2.2.2 tn
    have qa3 := qa.2.1
    have qa4 := qa.2.2.1
    have qa5 := qa.2.2.2.1
    have qa6 := qa.2.2.2.2.1
    have qa7 := qa.2.2.2.2.2.1
    have qa8 := (qa.2.2.2.2.2.2.2 (by omega))
    have qaw := hT.2.2.2.2.1 (Int.toNat (T 3 tn))
    have htr := hX.1.2.2.1 tn (by omega)
    have ht6 := htr.2.2.2.2.2.1
    have et := hNT.2 tn (by omega)
    have et1 := et.1
    have et2 := et.2.1
    have et3 := et.2.2.1
    have et4 := et.2.2.2.1
    have et8 := et.2.2.2.2.2
    refine c_of (by decide) (Nat.le_of_ble_eq_true rfl) ?_
    show Aj γ mX9_told d 0 0 Post 0 [(0, vA 123), (1, vI ((tn : Nat) : Int)), (2, vI q)] [] (mk h τ)
    refine a_aload_n (j := 0) dX9_told_0 rfl rfl (Nat.le_of_ble_eq_true rfl) ?_
    refine a_iload_n (j := 1) dX9_told_1 rfl rfl ?_
    refine b_callV (d' := d - 1) (mc' := 0) (ms' := 0) (mc1 := 0) (ms1 := 0) (st := []) (b := 123) [vI ((tn : Nat) : Int)] dX9_told_2 mwX9_isTrain lkX9_152 (by decide) rfl rc_X9 rfl (Nat.le_of_ble_eq_true rfl) (by omega) rfl rfl (c_X9_isTrain (v1 := (N 5)) (by omega)  (congrFun hN _) (show 0 ≤ (N 5) ∧ (N 5) ≤ 12 by omega) (fun t2_1 => ?_) (fun t2_1 => ?_))
    · have t2_1 : 0 ≤ ((tn : Nat) : Int) ∧ ((tn : Nat) : Int) < (N 5) := t2_1
      show Aj γ mX9_told d 0 0 Post 5 [(0, vA 123), (1, vI ((tn : Nat) : Int)), (2, vI q)] [vI 1] (mk h τ)
      refine a_if_eq (tgt := 18) dX9_told_5 (by decide) (fun c => absurd c (by decide)) (fun _ => ?_)
      refine a_iload_n (j := 2) dX9_told_8 rfl rfl ?_
      refine a_iconst dX9_told_9 ⟨by decide, by decide⟩ ?_
      refine a_bipush dX9_told_10 ⟨by decide, by decide, by decide⟩ ?_
      refine a_callS (d' := d - 1) (mc' := 0) (ms' := 0) (mc1 := 0) (ms1 := 0) (st := []) [vI q, vI 0, vI 17] dX9_told_12 mwX9_in lkX9_103 rfl (Nat.le_of_ble_eq_true rfl) (by omega) rfl rfl (c_X9_in  (by omega)    (fun t12_2 => ?_) (fun t12_2 => ?_))
      · have t12_2 : 0 ≤ q ∧ q ≤ 17 := t12_2
        show Aj γ mX9_told d 0 0 Post 15 [(0, vA 123), (1, vI ((tn : Nat) : Int)), (2, vI q)] [vI 1] (mk h τ)
        refine a_if_ne (tgt := 21) dX9_told_15 (by decide) (fun _ => ?_) (fun c => absurd c (by decide))
        refine a_aload_n (j := 0) dX9_told_21 rfl rfl (Nat.le_of_ble_eq_true rfl) ?_
        refine b_callV (d' := d - 1) (mc' := 0) (ms' := 0) (mc1 := 0) (ms1 := 0) (st := []) (b := 123) [] dX9_told_22 mwX9_learns lkX9_155 (by decide) rfl rc_X9 rfl (Nat.le_of_ble_eq_true rfl) (by omega) rfl rfl (k_learns (N := N) (by omega) hN hX.1 hC (fun h7 hF7 k7 c7 t7 g7 => ?_))
        rw [hTe] at t7 g7
        show Aj γ mX9_told d 0 0 Post 25 [(0, vA 123), (1, vI ((tn : Nat) : Int)), (2, vI q)] [] (mk h7 τ)
        refine a_iload_n (j := 2) dX9_told_25 rfl rfl ?_
        refine a_bipush dX9_told_26 ⟨by decide, by decide, by decide⟩ ?_
        refine a_icmp_le (tgt := 62) dX9_told_28 (by decide) (fun c28_3 => ?_) (fun c28_3 => ?_)
        · refine a_iload_n (j := 2) dX9_told_62 rfl rfl ?_
          rcases (show q = 6 ∨ q = 7 ∨ q = 8 ∨ q = 9 ∨ (¬ q = 6 ∧ ¬ q = 7 ∧ ¬ q = 8 ∧ ¬ q = 9) by omega) with c63_4 | c63_4 | c63_4 | c63_4 | c63_4
          · refine a_tblIn (tgt := 92) 0 dX9_told_63 ⟨by omega, by omega⟩ rfl (by decide) ?_
            refine a_aload_n (j := 0) dX9_told_92 rfl rfl (Nat.le_of_ble_eq_true rfl) ?_
            refine a_iload_n (j := 1) dX9_told_93 rfl rfl ?_
            refine a_bipush dX9_told_94 ⟨by decide, by decide, by decide⟩ ?_
            refine b_callV (d' := d - 1) (mc' := 0) (ms' := 0) (mc1 := 0) (ms1 := 0) (st := []) (b := 123) [vI ((tn : Nat) : Int), vI 6] dX9_told_96 mwX9_of lkX9_107 (by decide) rfl rc_X9 rfl (Nat.le_of_ble_eq_true rfl) (by omega) rfl rfl (c_X9_of (v1 := (N (21 + 11 * tn))) (by omega)  ((Fr_v hF7 (by decide)).trans ((congrArg (h 124) (show (Int.toNat ((15 + (11 * ((tn : Nat) : Int))) + 6)) = (21 + 11 * tn) by omega)).trans (congrFun hN _))) (show 0 ≤ ((tn : Nat) : Int) ∧ ((tn : Nat) : Int) ≤ 11 ∧ 0 ≤ 6 ∧ 6 ≤ 10 by omega) ?_)
            show Aj γ mX9_told d 0 0 Post 99 [(0, vA 123), (1, vI ((tn : Nat) : Int)), (2, vI q)] [vI (N (21 + 11 * tn))] (mk h7 τ)
            refine a_callS (d' := d - 1) (mc' := 0) (ms' := 0) (mc1 := 0) (ms1 := 0) (st := []) [vI (N (21 + 11 * tn))] dX9_told_99 mwX9_orNone lkX9_161 rfl (Nat.le_of_ble_eq_true rfl) (by omega) rfl rfl (c_X9_orNone  (by omega)    ?_)
            show Aj γ mX9_told d 0 0 Post 102 [(0, vA 123), (1, vI ((tn : Nat) : Int)), (2, vI q)] [vI (if (N (21 + 11 * tn)) < 0 then -1000000005 else (N (21 + 11 * tn)))] (mk h7 τ)
            exact a_iret dX9_told_102 rfl (post_v (kQ h7 hF7 k7 c7) (by unfold vTold; simp only [Int.toNat_natCast]; rw [if_pos (by omega), if_neg (by omega), if_neg (by omega), if_neg (by omega), if_neg (by omega), if_pos (by omega)] <;> first | rfl | omega))
          · refine a_tblIn (tgt := 103) 1 dX9_told_63 ⟨by omega, by omega⟩ rfl (by decide) ?_
            refine a_aload_n (j := 0) dX9_told_103 rfl rfl (Nat.le_of_ble_eq_true rfl) ?_
            refine b_getp (a := 123) (p := 128) dX9_told_104 fwX9_22 (by decide) rfl (by decide) rfl rfl ?_
            refine a_iload_n (j := 1) dX9_told_107 rfl rfl ?_
            refine b_iaload (a := 128) (z := T 6 tn) tn dX9_told_108 (by decide) rfl rfl (by omega) (sp_nil rfl _) (t7.2.2 tn (by omega)).1 (fun r108_5 => ?_)
            exact a_iret dX9_told_109 rfl (post_v (kQ h7 hF7 k7 c7) (by unfold vTold; simp only [Int.toNat_natCast]; rw [if_pos (by omega), if_neg (by omega), if_neg (by omega), if_pos (by omega), hTe] <;> first | rfl | omega))
          · refine a_tblIn (tgt := 110) 2 dX9_told_63 ⟨by omega, by omega⟩ rfl (by decide) ?_
            refine a_aload_n (j := 0) dX9_told_110 rfl rfl (Nat.le_of_ble_eq_true rfl) ?_
            refine b_getp (a := 123) (p := 129) dX9_told_111 fwX9_25 (by decide) rfl (by decide) rfl rfl ?_
            refine a_iload_n (j := 1) dX9_told_114 rfl rfl ?_
            refine b_iaload (a := 129) (z := T 7 tn) tn dX9_told_115 (by decide) rfl rfl (by omega) (sp_nil rfl _) (t7.2.2 tn (by omega)).2.1 (fun r115_6 => ?_)
            exact a_iret dX9_told_116 rfl (post_v (kQ h7 hF7 k7 c7) (by unfold vTold; simp only [Int.toNat_natCast]; rw [if_pos (by omega), if_neg (by omega), if_neg (by omega), if_neg (by omega), if_pos (by omega), hTe] <;> first | rfl | omega))
          · refine a_tblIn (tgt := 117) 3 dX9_told_63 ⟨by omega, by omega⟩ rfl (by decide) ?_
            refine a_aload_n (j := 0) dX9_told_117 rfl rfl (Nat.le_of_ble_eq_true rfl) ?_
            refine a_iload_n (j := 1) dX9_told_118 rfl rfl ?_
            refine a_iconst dX9_told_119 ⟨by decide, by decide⟩ ?_
            refine b_callV (d' := d - 1) (mc' := 0) (ms' := 0) (mc1 := 0) (ms1 := 0) (st := []) (b := 123) [vI ((tn : Nat) : Int), vI 0] dX9_told_120 mwX9_of lkX9_107 (by decide) rfl rc_X9 rfl (Nat.le_of_ble_eq_true rfl) (by omega) rfl rfl (c_X9_of (v1 := (N (15 + 11 * tn))) (by omega)  ((Fr_v hF7 (by decide)).trans ((congrArg (h 124) (show (Int.toNat ((15 + (11 * ((tn : Nat) : Int))) + 0)) = (15 + 11 * tn) by omega)).trans (congrFun hN _))) (show 0 ≤ ((tn : Nat) : Int) ∧ ((tn : Nat) : Int) ≤ 11 ∧ 0 ≤ 0 ∧ 0 ≤ 10 by omega) ?_)
            show Aj γ mX9_told d 0 0 Post 123 [(0, vA 123), (1, vI ((tn : Nat) : Int)), (2, vI q)] [vI (N (15 + 11 * tn))] (mk h7 τ)
            refine a_aload_n (j := 0) dX9_told_123 rfl rfl (Nat.le_of_ble_eq_true rfl) ?_
            refine a_iload_n (j := 1) dX9_told_124 rfl rfl ?_
            refine a_iconst dX9_told_125 ⟨by decide, by decide⟩ ?_
            refine b_callV (d' := d - 1) (mc' := 0) (ms' := 0) (mc1 := 0) (ms1 := 0) (st := [vI (N (15 + 11 * tn))]) (b := 123) [vI ((tn : Nat) : Int), vI 5] dX9_told_126 mwX9_of lkX9_107 (by decide) rfl rc_X9 rfl (Nat.le_of_ble_eq_true rfl) (by omega) rfl rfl (c_X9_of (v1 := (N (20 + 11 * tn))) (by omega)  ((Fr_v hF7 (by decide)).trans ((congrArg (h 124) (show (Int.toNat ((15 + (11 * ((tn : Nat) : Int))) + 5)) = (20 + 11 * tn) by omega)).trans (congrFun hN _))) (show 0 ≤ ((tn : Nat) : Int) ∧ ((tn : Nat) : Int) ≤ 11 ∧ 0 ≤ 5 ∧ 5 ≤ 10 by omega) ?_)
            show Aj γ mX9_told d 0 0 Post 129 [(0, vA 123), (1, vI ((tn : Nat) : Int)), (2, vI q)] [vI (N (20 + 11 * tn)), vI (N (15 + 11 * tn))] (mk h7 τ)
            refine a_callS (d' := d - 1) (mc' := 0) (ms' := 0) (mc1 := 0) (ms1 := 0) (st := []) [vI (N (15 + 11 * tn)), vI (N (20 + 11 * tn))] dX9_told_129 mwX9_fareBy lkX9_164 rfl (Nat.le_of_ble_eq_true rfl) (by omega) rfl rfl (c_X9_fareBy  (by omega)   (show 0 ≤ (N (20 + 11 * tn)) ∧ (N (20 + 11 * tn)) ≤ 999 by omega) ?_)
            show Aj γ mX9_told d 0 0 Post 132 [(0, vA 123), (1, vI ((tn : Nat) : Int)), (2, vI q)] [vI (farF (N (15 + 11 * tn)) (N (20 + 11 * tn)))] (mk h7 τ)
            exact a_iret dX9_told_132 rfl (post_v (kQ h7 hF7 k7 c7) (by unfold vTold; simp only [Int.toNat_natCast]; rw [if_pos (by omega), if_neg (by omega), if_neg (by omega), if_neg (by omega), if_neg (by omega), if_neg (by omega), if_neg (by omega), if_neg (by omega), if_neg (by omega), if_neg (by omega), if_neg (by omega), if_neg (by omega)] <;> first | rfl | omega))
          · refine a_tblOut (tgt := 133) dX9_told_63 (by omega) (by decide) ?_
            rcases (show q = 0 ∨ q = 1 ∨ q = 2 ∨ q = 3 ∨ q = 4 ∨ q = 5 by omega) with rfl | rfl | rfl | rfl | rfl | rfl
            · refine a_aload_n (j := 0) dX9_told_133 rfl rfl (Nat.le_of_ble_eq_true rfl) ?_
              refine a_iload_n (j := 1) dX9_told_134 rfl rfl ?_
              refine a_iload_n (j := 2) dX9_told_135 rfl rfl ?_
              refine b_callV (d' := d - 1) (mc' := 0) (ms' := 0) (mc1 := 0) (ms1 := 0) (st := []) (b := 123) [vI ((tn : Nat) : Int), vI 0] dX9_told_136 mwX9_of lkX9_107 (by decide) rfl rc_X9 rfl (Nat.le_of_ble_eq_true rfl) (by omega) rfl rfl (c_X9_of (v1 := (N (15 + 11 * tn))) (by omega)  ((Fr_v hF7 (by decide)).trans ((congrArg (h 124) (show (Int.toNat ((15 + (11 * ((tn : Nat) : Int))) + 0)) = (15 + 11 * tn) by omega)).trans (congrFun hN _))) (show 0 ≤ ((tn : Nat) : Int) ∧ ((tn : Nat) : Int) ≤ 11 ∧ 0 ≤ 0 ∧ 0 ≤ 10 by omega) ?_)
              show Aj γ mX9_told d 0 0 Post 139 [(0, vA 123), (1, vI ((tn : Nat) : Int)), (2, vI 0)] [vI (N (15 + 11 * tn))] (mk h7 τ)
              exact a_iret dX9_told_139 rfl (post_v (kQ h7 hF7 k7 c7) (by unfold vTold; rw [if_pos (by omega), if_neg (by decide), if_neg (by decide), if_neg (by decide), if_neg (by decide), if_neg (by decide), if_pos (by decide), Int.toNat_natCast] <;> first | rfl | omega))
            · refine a_aload_n (j := 0) dX9_told_133 rfl rfl (Nat.le_of_ble_eq_true rfl) ?_
              refine a_iload_n (j := 1) dX9_told_134 rfl rfl ?_
              refine a_iload_n (j := 2) dX9_told_135 rfl rfl ?_
              refine b_callV (d' := d - 1) (mc' := 0) (ms' := 0) (mc1 := 0) (ms1 := 0) (st := []) (b := 123) [vI ((tn : Nat) : Int), vI 1] dX9_told_136 mwX9_of lkX9_107 (by decide) rfl rc_X9 rfl (Nat.le_of_ble_eq_true rfl) (by omega) rfl rfl (c_X9_of (v1 := (T 2 tn)) (by omega)  ((congrArg (h7 124) (show (Int.toNat ((15 + (11 * ((tn : Nat) : Int))) + 1)) = (16 + 11 * tn) by omega)).trans (t7.1.2 tn (by omega)).1) (show 0 ≤ ((tn : Nat) : Int) ∧ ((tn : Nat) : Int) ≤ 11 ∧ 0 ≤ 1 ∧ 1 ≤ 10 by omega) ?_)
              show Aj γ mX9_told d 0 0 Post 139 [(0, vA 123), (1, vI ((tn : Nat) : Int)), (2, vI 1)] [vI (T 2 tn)] (mk h7 τ)
              exact a_iret dX9_told_139 rfl (post_v (kQ h7 hF7 k7 c7) (by unfold vTold; rw [if_pos (by omega), if_neg (by decide), if_neg (by decide), if_neg (by decide), if_neg (by decide), if_neg (by decide), if_neg (by decide), if_pos (by decide), Int.toNat_natCast] <;> first | rfl | omega))
            · refine a_aload_n (j := 0) dX9_told_133 rfl rfl (Nat.le_of_ble_eq_true rfl) ?_
              refine a_iload_n (j := 1) dX9_told_134 rfl rfl ?_
              refine a_iload_n (j := 2) dX9_told_135 rfl rfl ?_
              refine b_callV (d' := d - 1) (mc' := 0) (ms' := 0) (mc1 := 0) (ms1 := 0) (st := []) (b := 123) [vI ((tn : Nat) : Int), vI 2] dX9_told_136 mwX9_of lkX9_107 (by decide) rfl rc_X9 rfl (Nat.le_of_ble_eq_true rfl) (by omega) rfl rfl (c_X9_of (v1 := (T 3 tn)) (by omega)  ((congrArg (h7 124) (show (Int.toNat ((15 + (11 * ((tn : Nat) : Int))) + 2)) = (17 + 11 * tn) by omega)).trans (t7.1.2 tn (by omega)).2.1) (show 0 ≤ ((tn : Nat) : Int) ∧ ((tn : Nat) : Int) ≤ 11 ∧ 0 ≤ 2 ∧ 2 ≤ 10 by omega) ?_)
              show Aj γ mX9_told d 0 0 Post 139 [(0, vA 123), (1, vI ((tn : Nat) : Int)), (2, vI 2)] [vI (T 3 tn)] (mk h7 τ)
              exact a_iret dX9_told_139 rfl (post_v (kQ h7 hF7 k7 c7) (by unfold vTold; rw [if_pos (by omega), if_neg (by decide), if_neg (by decide), if_neg (by decide), if_neg (by decide), if_neg (by decide), if_neg (by decide), if_neg (by decide), if_pos (by decide), Int.toNat_natCast] <;> first | rfl | omega))
            · refine a_aload_n (j := 0) dX9_told_133 rfl rfl (Nat.le_of_ble_eq_true rfl) ?_
              refine a_iload_n (j := 1) dX9_told_134 rfl rfl ?_
              refine a_iload_n (j := 2) dX9_told_135 rfl rfl ?_
              refine b_callV (d' := d - 1) (mc' := 0) (ms' := 0) (mc1 := 0) (ms1 := 0) (st := []) (b := 123) [vI ((tn : Nat) : Int), vI 3] dX9_told_136 mwX9_of lkX9_107 (by decide) rfl rc_X9 rfl (Nat.le_of_ble_eq_true rfl) (by omega) rfl rfl (c_X9_of (v1 := (N (18 + 11 * tn))) (by omega)  ((Fr_v hF7 (by decide)).trans ((congrArg (h 124) (show (Int.toNat ((15 + (11 * ((tn : Nat) : Int))) + 3)) = (18 + 11 * tn) by omega)).trans (congrFun hN _))) (show 0 ≤ ((tn : Nat) : Int) ∧ ((tn : Nat) : Int) ≤ 11 ∧ 0 ≤ 3 ∧ 3 ≤ 10 by omega) ?_)
              show Aj γ mX9_told d 0 0 Post 139 [(0, vA 123), (1, vI ((tn : Nat) : Int)), (2, vI 3)] [vI (N (18 + 11 * tn))] (mk h7 τ)
              exact a_iret dX9_told_139 rfl (post_v (kQ h7 hF7 k7 c7) (by unfold vTold; rw [if_pos (by omega), if_neg (by decide), if_neg (by decide), if_neg (by decide), if_neg (by decide), if_neg (by decide), if_neg (by decide), if_neg (by decide), if_neg (by decide), if_pos (by decide), Int.toNat_natCast] <;> first | rfl | omega))
            · refine a_aload_n (j := 0) dX9_told_133 rfl rfl (Nat.le_of_ble_eq_true rfl) ?_
              refine a_iload_n (j := 1) dX9_told_134 rfl rfl ?_
              refine a_iload_n (j := 2) dX9_told_135 rfl rfl ?_
              refine b_callV (d' := d - 1) (mc' := 0) (ms' := 0) (mc1 := 0) (ms1 := 0) (st := []) (b := 123) [vI ((tn : Nat) : Int), vI 4] dX9_told_136 mwX9_of lkX9_107 (by decide) rfl rc_X9 rfl (Nat.le_of_ble_eq_true rfl) (by omega) rfl rfl (c_X9_of (v1 := (T 4 tn)) (by omega)  ((congrArg (h7 124) (show (Int.toNat ((15 + (11 * ((tn : Nat) : Int))) + 4)) = (19 + 11 * tn) by omega)).trans (t7.1.2 tn (by omega)).2.2.1) (show 0 ≤ ((tn : Nat) : Int) ∧ ((tn : Nat) : Int) ≤ 11 ∧ 0 ≤ 4 ∧ 4 ≤ 10 by omega) ?_)
              show Aj γ mX9_told d 0 0 Post 139 [(0, vA 123), (1, vI ((tn : Nat) : Int)), (2, vI 4)] [vI (T 4 tn)] (mk h7 τ)
              exact a_iret dX9_told_139 rfl (post_v (kQ h7 hF7 k7 c7) (by unfold vTold; rw [if_pos (by omega), if_neg (by decide), if_neg (by decide), if_neg (by decide), if_neg (by decide), if_neg (by decide), if_neg (by decide), if_neg (by decide), if_neg (by decide), if_neg (by decide), if_pos (by decide), Int.toNat_natCast] <;> first | rfl | omega))
            · refine a_aload_n (j := 0) dX9_told_133 rfl rfl (Nat.le_of_ble_eq_true rfl) ?_
              refine a_iload_n (j := 1) dX9_told_134 rfl rfl ?_
              refine a_iload_n (j := 2) dX9_told_135 rfl rfl ?_
              refine b_callV (d' := d - 1) (mc' := 0) (ms' := 0) (mc1 := 0) (ms1 := 0) (st := []) (b := 123) [vI ((tn : Nat) : Int), vI 5] dX9_told_136 mwX9_of lkX9_107 (by decide) rfl rc_X9 rfl (Nat.le_of_ble_eq_true rfl) (by omega) rfl rfl (c_X9_of (v1 := (N (20 + 11 * tn))) (by omega)  ((Fr_v hF7 (by decide)).trans ((congrArg (h 124) (show (Int.toNat ((15 + (11 * ((tn : Nat) : Int))) + 5)) = (20 + 11 * tn) by omega)).trans (congrFun hN _))) (show 0 ≤ ((tn : Nat) : Int) ∧ ((tn : Nat) : Int) ≤ 11 ∧ 0 ≤ 5 ∧ 5 ≤ 10 by omega) ?_)
              show Aj γ mX9_told d 0 0 Post 139 [(0, vA 123), (1, vI ((tn : Nat) : Int)), (2, vI 5)] [vI (N (20 + 11 * tn))] (mk h7 τ)
              exact a_iret dX9_told_139 rfl (post_v (kQ h7 hF7 k7 c7) (by unfold vTold; rw [if_pos (by omega), if_neg (by decide), if_neg (by decide), if_neg (by decide), if_neg (by decide), if_neg (by decide), if_neg (by decide), if_neg (by decide), if_neg (by decide), if_neg (by decide), if_neg (by decide), if_pos (by decide), Int.toNat_natCast] <;> first | rfl | omega))
        · refine a_iload_n (j := 2) dX9_told_31 rfl rfl ?_
          refine a_bipush dX9_told_32 ⟨by decide, by decide, by decide⟩ ?_
          refine a_icmp_ge (tgt := 52) dX9_told_34 (by decide) (fun c34_7 => ?_) (fun c34_7 => ?_)
          · obtain ⟨s, hs⟩ : ∃ s : Nat, q - 14 = (s : Int) := ⟨Int.toNat (q - 14), by omega⟩
            have qa9s := qa.2.2.2.2.2.2.1 s (by omega)
            refine a_aload_n (j := 0) dX9_told_52 rfl rfl (Nat.le_of_ble_eq_true rfl) ?_
            refine a_iload_n (j := 1) dX9_told_53 rfl rfl ?_
            refine a_iload_n (j := 2) dX9_told_54 rfl rfl ?_
            refine a_bipush dX9_told_55 ⟨by decide, by decide, by decide⟩ ?_
            refine a_isub (z := ((s : Nat) : Int)) dX9_told_57 (by rw [w_ok (by omega) (by omega)]; omega) ?_
            refine b_callV (d' := d - 1) (mc' := 0) (ms' := 0) (mc1 := 0) (ms1 := 0) (st := []) (b := 123) [vI ((tn : Nat) : Int), vI ((s : Nat) : Int)] dX9_told_58 mwX9_there lkX9_158 (by decide) rfl rc_X9 rfl (Nat.le_of_ble_eq_true rfl) (by omega) rfl rfl (c_X9_there (v1 := (T 6 tn)) (v2 := (T 9 (4 * tn + s) - T 6 tn)) (v3 := (T 4 tn)) (by omega)  ((congrArg (h7 128) (show (Int.toNat ((tn : Nat) : Int)) = tn by omega)).trans (t7.2.2 tn (by omega)).1) ((congrArg (h7 130) (show (Int.toNat ((4 * ((tn : Nat) : Int)) + ((s : Nat) : Int))) = (4 * tn + s) by omega)).trans ((t7.2.2 tn (by omega)).2.2 s (by omega))) ((congrArg (h7 124) (show (Int.toNat ((15 + (11 * ((tn : Nat) : Int))) + 4)) = (19 + 11 * tn) by omega)).trans (t7.1.2 tn (by omega)).2.2.1) (show 0 ≤ ((tn : Nat) : Int) ∧ ((tn : Nat) : Int) ≤ 11 by omega) (show 0 ≤ ((s : Nat) : Int) ∧ ((s : Nat) : Int) ≤ 3 by omega) (show 0 ≤ (T 6 tn) ∧ (T 6 tn) ≤ 1559 by omega) (show 0 ≤ (T 9 (4 * tn + s) - T 6 tn) ∧ (T 9 (4 * tn + s) - T 6 tn) ≤ 1000 by omega) (show 1 ≤ (T 4 tn) ∧ (T 4 tn) ≤ 600 by omega) ?_)
            show Aj γ mX9_told d 0 0 Post 61 [(0, vA 123), (1, vI ((tn : Nat) : Int)), (2, vI q)] [vI ((T 6 tn) + (T 9 (4 * tn + s) - T 6 tn) + (T 4 tn))] (mk h7 τ)
            exact a_iret dX9_told_61 rfl (post_v (kQ h7 hF7 k7 c7) (by unfold vTold; simp only [Int.toNat_natCast]; rw [if_pos (by omega), if_pos (by omega), show Int.toNat (q - 14) = s by omega, hTe]; omega))
          · obtain ⟨s, hs⟩ : ∃ s : Nat, q - 10 = (s : Int) := ⟨Int.toNat (q - 10), by omega⟩
            refine a_aload_n (j := 0) dX9_told_37 rfl rfl (Nat.le_of_ble_eq_true rfl) ?_
            refine a_iload_n (j := 1) dX9_told_38 rfl rfl ?_
            refine a_bipush dX9_told_39 ⟨by decide, by decide, by decide⟩ ?_
            refine a_iload_n (j := 2) dX9_told_41 rfl rfl ?_
            refine a_iadd (z := (7 + q)) dX9_told_42 (w_ok (by omega) (by omega)) ?_
            refine a_bipush dX9_told_43 ⟨by decide, by decide, by decide⟩ ?_
            refine a_isub (z := (7 + ((s : Nat) : Int))) dX9_told_45 (by rw [w_ok (by omega) (by omega)]; omega) ?_
            refine b_callV (d' := d - 1) (mc' := 0) (ms' := 0) (mc1 := 0) (ms1 := 0) (st := []) (b := 123) [vI ((tn : Nat) : Int), vI (7 + ((s : Nat) : Int))] dX9_told_46 mwX9_of lkX9_107 (by decide) rfl rc_X9 rfl (Nat.le_of_ble_eq_true rfl) (by omega) rfl rfl (c_X9_of (v1 := (T 8 (4 * tn + s))) (by omega)  ((congrArg (h7 124) (show (Int.toNat ((15 + (11 * ((tn : Nat) : Int))) + (7 + ((s : Nat) : Int)))) = (22 + 11 * tn + s) by omega)).trans ((t7.1.2 tn (by omega)).2.2.2.2.2 s (by omega))) (show 0 ≤ ((tn : Nat) : Int) ∧ ((tn : Nat) : Int) ≤ 11 ∧ 0 ≤ (7 + ((s : Nat) : Int)) ∧ (7 + ((s : Nat) : Int)) ≤ 10 by omega) ?_)
            show Aj γ mX9_told d 0 0 Post 49 [(0, vA 123), (1, vI ((tn : Nat) : Int)), (2, vI q)] [vI (T 8 (4 * tn + s))] (mk h7 τ)
            refine a_goto (tgt := 61) dX9_told_49 (by decide) ?_
            exact a_iret dX9_told_61 rfl (post_v (kQ h7 hF7 k7 c7) (by unfold vTold; simp only [Int.toNat_natCast]; rw [if_pos (by omega), if_neg (by omega), if_pos (by omega), show Int.toNat (q - 10) = s by omega, et8 s (by omega)]))
      · have t12_2 : ¬ (0 ≤ q ∧ q ≤ 17) := t12_2
        show Aj γ mX9_told d 0 0 Post 15 [(0, vA 123), (1, vI ((tn : Nat) : Int)), (2, vI q)] [vI 0] (mk h τ)
        refine a_if_ne (tgt := 21) dX9_told_15 (by decide) (fun c => absurd c (by decide)) (fun _ => ?_)
        refine a_ldc (z := (-1000000001)) dX9_told_18 kwX9_146 ⟨by decide, by decide, by decide⟩ ?_
        exact a_iret dX9_told_20 rfl (absurd hin (by omega))
    · have t2_1 : ¬ (0 ≤ ((tn : Nat) : Int) ∧ ((tn : Nat) : Int) < (N 5)) := t2_1
      show Aj γ mX9_told d 0 0 Post 5 [(0, vA 123), (1, vI ((tn : Nat) : Int)), (2, vI q)] [vI 0] (mk h τ)
      refine a_if_eq (tgt := 18) dX9_told_5 (by decide) (fun _ => ?_) (fun c => absurd c (by decide))
      refine a_ldc (z := (-1000000001)) dX9_told_18 kwX9_146 ⟨by decide, by decide, by decide⟩ ?_
      exact a_iret dX9_told_20 rfl (absurd hin (by omega))
  · refine c_of (by decide) (Nat.le_of_ble_eq_true rfl) ?_
    show Aj γ mX9_told d 0 0 Post 0 [(0, vA 123), (1, vI t), (2, vI q)] [] (mk h τ)
    refine a_aload_n (j := 0) dX9_told_0 rfl rfl (Nat.le_of_ble_eq_true rfl) ?_
    refine a_iload_n (j := 1) dX9_told_1 rfl rfl ?_
    refine b_callV (d' := d - 1) (mc' := 0) (ms' := 0) (mc1 := 0) (ms1 := 0) (st := []) (b := 123) [vI t] dX9_told_2 mwX9_isTrain lkX9_152 (by decide) rfl rc_X9 rfl (Nat.le_of_ble_eq_true rfl) (by omega) rfl rfl (c_X9_isTrain (v1 := (N 5)) (by omega)  (congrFun hN _) (show 0 ≤ (N 5) ∧ (N 5) ≤ 12 by omega) (fun t2_1 => ?_) (fun t2_1 => ?_))
    · have t2_1 : 0 ≤ t ∧ t < (N 5) := t2_1
      show Aj γ mX9_told d 0 0 Post 5 [(0, vA 123), (1, vI t), (2, vI q)] [vI 1] (mk h τ)
      refine a_if_eq (tgt := 18) dX9_told_5 (by decide) (fun c => absurd c (by decide)) (fun _ => ?_)
      refine a_iload_n (j := 2) dX9_told_8 rfl rfl ?_
      refine a_iconst dX9_told_9 ⟨by decide, by decide⟩ ?_
      refine a_bipush dX9_told_10 ⟨by decide, by decide, by decide⟩ ?_
      refine a_callS (d' := d - 1) (mc' := 0) (ms' := 0) (mc1 := 0) (ms1 := 0) (st := []) [vI q, vI 0, vI 17] dX9_told_12 mwX9_in lkX9_103 rfl (Nat.le_of_ble_eq_true rfl) (by omega) rfl rfl (c_X9_in  (by omega)    (fun t12_2 => ?_) (fun t12_2 => ?_))
      · have t12_2 : 0 ≤ q ∧ q ≤ 17 := t12_2
        show Aj γ mX9_told d 0 0 Post 15 [(0, vA 123), (1, vI t), (2, vI q)] [vI 1] (mk h τ)
        refine a_if_ne (tgt := 21) dX9_told_15 (by decide) (fun _ => ?_) (fun c => absurd c (by decide))
        exact absurd (by omega) hin
      · have t12_2 : ¬ (0 ≤ q ∧ q ≤ 17) := t12_2
        show Aj γ mX9_told d 0 0 Post 15 [(0, vA 123), (1, vI t), (2, vI q)] [vI 0] (mk h τ)
        refine a_if_ne (tgt := 21) dX9_told_15 (by decide) (fun c => absurd c (by decide)) (fun _ => ?_)
        refine a_ldc (z := (-1000000001)) dX9_told_18 kwX9_146 ⟨by decide, by decide, by decide⟩ ?_
        exact a_iret dX9_told_20 rfl (post_v (kQ h Fr_r K3_r hC) (by unfold vTold; rw [if_neg hin]))
    · have t2_1 : ¬ (0 ≤ t ∧ t < (N 5)) := t2_1
      show Aj γ mX9_told d 0 0 Post 5 [(0, vA 123), (1, vI t), (2, vI q)] [vI 0] (mk h τ)
      refine a_if_eq (tgt := 18) dX9_told_5 (by decide) (fun _ => ?_) (fun c => absurd c (by decide))
      refine a_ldc (z := (-1000000001)) dX9_told_18 kwX9_146 ⟨by decide, by decide, by decide⟩ ?_
      exact a_iret dX9_told_20 rfl (post_v (kQ h Fr_r K3_r hC) (by unfold vTold; rw [if_neg hin]))
set_option maxHeartbeats 8000000 in
theorem l_latX {γ : GT} {d : Nat} {T : Nat → Nat → Int} {s q : Int} {h : Nat → Nat → Int} {τ : List AC} {Post : Option AV → List AC → Prop} (hd : 6 ≤ d) (hT : tOK T) (hTT : TT h T) (hk0 : h 80 0 = 1) (hg : CHp h 80 1 T (plT T 0)) (hs : 0 ≤ s ∧ s ≤ 5) (kQ : Post (some (vI (ltF (fndV (ltP T s q) 0 1470)))) (mk h τ)) :
    ∀ (f i : Nat) , i ≤ 1470 → 1470 < i + f → (fndV (ltP T s q) 0 1470 = fndV (ltP T s q) i 1470) → Aj γ mX8_latest d 0 0 Post 46 [(4, vI (1469 - ((i : Nat) : Int))), (3, vA 80), (0, vA 0), (1, vI s), (2, vI q)] [] (mk h τ) := by
  intro f
  induction f with
  | zero => intro i  h1_ h2_; omega
  | succ f ih =>
    intro i  h1_ h2_ iv
    refine a_iload (j := 0) dX8_latest_46 rfl ?_
    refine a_if_lt (tgt := 75) dX8_latest_48 (by decide) (fun c48_1 => ?_) (fun c48_1 => ?_)
    · refine a_ldc (z := (-1000000005)) dX8_latest_75 kwX8_159 ⟨by decide, by decide, by decide⟩ ?_
      exact a_iret dX8_latest_77 rfl (post_v kQ (by rw [iv, fnd_0 (by omega)]; rfl))
    · refine a_aload_n (j := 1) dX8_latest_51 rfl rfl (Nat.le_of_ble_eq_true rfl) ?_
      refine a_aload_n (j := 2) dX8_latest_52 rfl rfl (Nat.le_of_ble_eq_true rfl) ?_
      refine b_getp (a := 0) (p := 63) dX8_latest_53 fwX8_24 (by decide) rfl (by decide) rfl rfl ?_
      refine a_iload_n (j := 3) dX8_latest_56 rfl rfl ?_
      refine a_iload (j := 0) dX8_latest_57 rfl ?_
      refine b_callV (d' := d - 1) (mc' := 0) (ms' := 0) (mc1 := 0) (ms1 := 0) (st := []) (b := 80) [vA 63, vI s, vI (1469 - ((i : Nat) : Int))] dX8_latest_59 mwX0_worthAt lkX8_211 (by decide) rfl rc_X0 rfl (Nat.le_of_ble_eq_true rfl) (by omega) rfl rfl (c_X0_worthAt_80 (κ := 1) (T := T) (s := s) (m := (1469 - ((i : Nat) : Int))) (by omega) hk0 rfl hT hTT (by omega) (by omega) (fun e1 e2 => hg _ _ (by omega) (by omega) e1 (by omega) (by omega) (plT_mono (by omega))) ?_)
      show Aj γ mX8_latest d 0 0 Post 62 [(4, vI (1469 - ((i : Nat) : Int))), (3, vA 80), (0, vA 0), (1, vI s), (2, vI q)] [vI (WT 1 T s (1469 - ((i : Nat) : Int)))] (mk h τ)
      refine a_iload_n (j := 4) dX8_latest_62 rfl rfl ?_
      refine a_icmp_lt (tgt := 69) dX8_latest_63 (by decide) (fun c63_2 => ?_) (fun c63_2 => ?_)
      · refine a_iinc (j := 0) (z' := ((1469 - ((i : Nat) : Int)) - 1)) (lv' := [(4, vI ((1469 - ((i : Nat) : Int)) - 1)), (3, vA 80), (0, vA 0), (1, vI s), (2, vI q)]) dX8_latest_69 rfl (w_ok (by omega) (by omega)) (by decide) rfl ?_
        refine a_goto (tgt := 46) dX8_latest_72 (by decide) ?_
        rw [show (1469 - ((i : Nat) : Int)) - 1 = 1469 - (((i + 1) : Nat) : Int) by omega]
        refine a_lv (lv' := [(4, vI (1469 - (((i + 1) : Nat) : Int))), (3, vA 80), (0, vA 0), (1, vI s), (2, vI q)]) (by intro q hq; simp only [List.mem_cons, List.not_mem_nil, or_false] at hq ⊢; rcases hq with rfl | rfl | rfl | rfl | rfl <;> simp) (ih (i + 1)  (by omega) (by omega) (iv.trans (fnd_s (fun e => by have e : q ≤ WT 1 T s (1469 - ((i : Nat) : Int)) := e; omega))))
      · refine a_iload (j := 0) dX8_latest_66 rfl ?_
        exact a_iret dX8_latest_68 rfl (post_v kQ (by rw [iv, fnd_h (by omega) (show q ≤ WT 1 T s (1469 - ((i : Nat) : Int)) by omega)]; unfold ltF; rw [if_neg (by omega)]))
set_option maxHeartbeats 8000000 in
theorem q_X8_latest {γ : GT} {d : Nat} {s q : Int} {N J : Nat → Int} {h : Nat → Nat → Int} {τ : List AC} {Post : Option AV → List AC → Prop} (hd : 12 ≤ d) (hR : WR h τ 1 N) (hX : NX N) (hC : CC h N J) (kQ : ∀ h', Fr [63, 64, 65, 66, 67, 68, 69, 70, 71, 72, 73, 74, 75, 76, 77, 78, 79, 80, 81, 82, 83] h h' → CC h' N J → Post (some (vI (vLatest N s q))) (mk h' τ)) : Cj γ mX8_latest d 0 0 [vA 0, vI s, vI q] (mk h τ) Post := by
  have hsc := hX.1.1
  have hs1 := hsc.1
  have hs2 := hsc.2.1
  have hs3 := hsc.2.2.1
  have hs4 := hsc.2.2.2.1
  have hs5 := hsc.2.2.2.2
  have hx7 := hX.2.1
  have hx8 := hX.2.2.2.1
  obtain ⟨T, hTe⟩ : ∃ T, tt N = T := ⟨_, rfl⟩
  have hT : tOK T := hTe ▸ tt_OK hX.1
  have hNT : NTr N T := hTe ▸ NT_tt hX.1
  have e02 : N 5 = T 0 2 := hNT.1.2.2.1
  have e03 : N 4 = T 0 3 := hNT.1.2.2.2
  by_cases hin : (0 ≤ s ∧ s < N 4) ∧ (0 ≤ q ∧ q ≤ 10000)
  · skip
    refine c_of (by decide) (Nat.le_of_ble_eq_true rfl) ?_
    show Aj γ mX8_latest d 0 0 Post 0 [(0, vA 0), (1, vI s), (2, vI q)] [] (mk h τ)
    refine a_aload_n (j := 0) dX8_latest_0 rfl rfl (Nat.le_of_ble_eq_true rfl) ?_
    refine b_getp (a := 0) (p := 1) dX8_latest_1 fwX8_14 (by decide) rfl (by decide) rfl rfl ?_
    refine a_iload_n (j := 1) dX8_latest_4 rfl rfl ?_
    refine b_callV (d' := d - 1) (mc' := 0) (ms' := 0) (mc1 := 0) (ms1 := 0) (st := []) (b := 1) [vI s] dX8_latest_5 mwX7_isStop lkX8_84 (by decide) rfl rc_X7 rfl (Nat.le_of_ble_eq_true rfl) (by omega) rfl rfl (c_X7_isStop (v1 := (N 4)) (by omega) (Or.inl rfl) hR.1.1 (show 0 ≤ (N 4) ∧ (N 4) ≤ 6 by omega) (fun t5_1 => ?_) (fun t5_1 => ?_))
    · have t5_1 : 0 ≤ s ∧ s < (N 4) := t5_1
      show Aj γ mX8_latest d 0 0 Post 8 [(0, vA 0), (1, vI s), (2, vI q)] [vI 1] (mk h τ)
      refine a_if_eq (tgt := 22) dX8_latest_8 (by decide) (fun c => absurd c (by decide)) (fun _ => ?_)
      refine a_iload_n (j := 2) dX8_latest_11 rfl rfl ?_
      refine a_iconst dX8_latest_12 ⟨by decide, by decide⟩ ?_
      refine a_sipush dX8_latest_13 ⟨by decide, by decide, by decide⟩ ?_
      refine a_callS (d' := d - 1) (mc' := 0) (ms' := 0) (mc1 := 0) (ms1 := 0) (st := []) [vI q, vI 0, vI 10000] dX8_latest_16 mwX8_within lkX8_68 rfl (Nat.le_of_ble_eq_true rfl) (by omega) rfl rfl (c_X8_within  (by omega)    (fun t16_2 => ?_) (fun t16_2 => ?_))
      · have t16_2 : 0 ≤ q ∧ q ≤ 10000 := t16_2
        show Aj γ mX8_latest d 0 0 Post 19 [(0, vA 0), (1, vI s), (2, vI q)] [vI 1] (mk h τ)
        refine a_if_ne (tgt := 25) dX8_latest_19 (by decide) (fun _ => ?_) (fun c => absurd c (by decide))
        refine a_aload_n (j := 0) dX8_latest_25 rfl rfl (Nat.le_of_ble_eq_true rfl) ?_
        refine b_getp (a := 0) (p := 80) dX8_latest_26 fwX8_37 (by decide) rfl (by decide) rfl rfl ?_
        refine a_aload_n (j := 0) dX8_latest_29 rfl rfl (Nat.le_of_ble_eq_true rfl) ?_
        refine b_getp (a := 0) (p := 63) dX8_latest_30 fwX8_24 (by decide) rfl (by decide) rfl rfl ?_
        refine a_aload_n (j := 0) dX8_latest_33 rfl rfl (Nat.le_of_ble_eq_true rfl) ?_
        refine b_getp (a := 0) (p := 1) dX8_latest_34 fwX8_14 (by decide) rfl (by decide) rfl rfl ?_
        refine b_callV (d' := d - 1) (mc' := 0) (ms' := 0) (mc1 := 0) (ms1 := 0) (st := []) (b := 80) [vA 63, vA 1] dX8_latest_37 mwX0_drawnFor lkX8_207 (by decide) rfl rc_X0 rfl (Nat.le_of_ble_eq_true rfl) (by omega) rfl rfl (k_drawn_80 (N := N) (J := J) (by omega) hR hX.1 hC (fun h7 hF7 c7 t7 g7 => ?_))
        rw [hTe] at t7 g7
        show Aj γ mX8_latest d 0 0 Post 40 [(0, vA 0), (1, vI s), (2, vI q)] [vA 80] (mk h7 τ)
        refine a_astore_n (lv' := [(3, vA 80), (0, vA 0), (1, vI s), (2, vI q)]) dX8_latest_40 rfl (by decide) (Nat.le_of_ble_eq_true rfl) rfl ?_
        refine a_sipush dX8_latest_41 ⟨by decide, by decide, by decide⟩ ?_
        refine a_istore (lv' := [(4, vI 1469), (3, vA 80), (0, vA 0), (1, vI s), (2, vI q)]) dX8_latest_44 (by decide) rfl ?_
        exact a_lv (lv' := [(4, vI 1469), (3, vA 80), (0, vA 0), (1, vI s), (2, vI q)]) (by intro q hq; simp only [List.mem_cons, List.not_mem_nil, or_false] at hq ⊢; rcases hq with rfl | rfl | rfl | rfl | rfl <;> simp) (l_latX (h := h7) (T := T) (s := s) (q := q) (by omega) hT t7 c7.2.2.1.1.2.1 g7 (by omega) (post_v (kQ h7 hF7 c7) (by unfold vLatest; rw [if_pos hin, hTe])) 1471 0 (by omega) (by omega) rfl)
      · have t16_2 : ¬ (0 ≤ q ∧ q ≤ 10000) := t16_2
        show Aj γ mX8_latest d 0 0 Post 19 [(0, vA 0), (1, vI s), (2, vI q)] [vI 0] (mk h τ)
        refine a_if_ne (tgt := 25) dX8_latest_19 (by decide) (fun c => absurd c (by decide)) (fun _ => ?_)
        refine a_ldc (z := (-1000000001)) dX8_latest_22 kwX8_72 ⟨by decide, by decide, by decide⟩ ?_
        exact a_iret dX8_latest_24 rfl (absurd hin (by omega))
    · have t5_1 : ¬ (0 ≤ s ∧ s < (N 4)) := t5_1
      show Aj γ mX8_latest d 0 0 Post 8 [(0, vA 0), (1, vI s), (2, vI q)] [vI 0] (mk h τ)
      refine a_if_eq (tgt := 22) dX8_latest_8 (by decide) (fun _ => ?_) (fun c => absurd c (by decide))
      refine a_ldc (z := (-1000000001)) dX8_latest_22 kwX8_72 ⟨by decide, by decide, by decide⟩ ?_
      exact a_iret dX8_latest_24 rfl (absurd hin (by omega))
  · refine c_of (by decide) (Nat.le_of_ble_eq_true rfl) ?_
    show Aj γ mX8_latest d 0 0 Post 0 [(0, vA 0), (1, vI s), (2, vI q)] [] (mk h τ)
    refine a_aload_n (j := 0) dX8_latest_0 rfl rfl (Nat.le_of_ble_eq_true rfl) ?_
    refine b_getp (a := 0) (p := 1) dX8_latest_1 fwX8_14 (by decide) rfl (by decide) rfl rfl ?_
    refine a_iload_n (j := 1) dX8_latest_4 rfl rfl ?_
    refine b_callV (d' := d - 1) (mc' := 0) (ms' := 0) (mc1 := 0) (ms1 := 0) (st := []) (b := 1) [vI s] dX8_latest_5 mwX7_isStop lkX8_84 (by decide) rfl rc_X7 rfl (Nat.le_of_ble_eq_true rfl) (by omega) rfl rfl (c_X7_isStop (v1 := (N 4)) (by omega) (Or.inl rfl) hR.1.1 (show 0 ≤ (N 4) ∧ (N 4) ≤ 6 by omega) (fun t5_1 => ?_) (fun t5_1 => ?_))
    · have t5_1 : 0 ≤ s ∧ s < (N 4) := t5_1
      show Aj γ mX8_latest d 0 0 Post 8 [(0, vA 0), (1, vI s), (2, vI q)] [vI 1] (mk h τ)
      refine a_if_eq (tgt := 22) dX8_latest_8 (by decide) (fun c => absurd c (by decide)) (fun _ => ?_)
      refine a_iload_n (j := 2) dX8_latest_11 rfl rfl ?_
      refine a_iconst dX8_latest_12 ⟨by decide, by decide⟩ ?_
      refine a_sipush dX8_latest_13 ⟨by decide, by decide, by decide⟩ ?_
      refine a_callS (d' := d - 1) (mc' := 0) (ms' := 0) (mc1 := 0) (ms1 := 0) (st := []) [vI q, vI 0, vI 10000] dX8_latest_16 mwX8_within lkX8_68 rfl (Nat.le_of_ble_eq_true rfl) (by omega) rfl rfl (c_X8_within  (by omega)    (fun t16_2 => ?_) (fun t16_2 => ?_))
      · have t16_2 : 0 ≤ q ∧ q ≤ 10000 := t16_2
        show Aj γ mX8_latest d 0 0 Post 19 [(0, vA 0), (1, vI s), (2, vI q)] [vI 1] (mk h τ)
        refine a_if_ne (tgt := 25) dX8_latest_19 (by decide) (fun _ => ?_) (fun c => absurd c (by decide))
        exact absurd (by omega) hin
      · have t16_2 : ¬ (0 ≤ q ∧ q ≤ 10000) := t16_2
        show Aj γ mX8_latest d 0 0 Post 19 [(0, vA 0), (1, vI s), (2, vI q)] [vI 0] (mk h τ)
        refine a_if_ne (tgt := 25) dX8_latest_19 (by decide) (fun c => absurd c (by decide)) (fun _ => ?_)
        refine a_ldc (z := (-1000000001)) dX8_latest_22 kwX8_72 ⟨by decide, by decide, by decide⟩ ?_
        exact a_iret dX8_latest_24 rfl (post_v (kQ h Fr_r hC) (by unfold vLatest; rw [if_neg hin]))
    · have t5_1 : ¬ (0 ≤ s ∧ s < (N 4)) := t5_1
      show Aj γ mX8_latest d 0 0 Post 8 [(0, vA 0), (1, vI s), (2, vI q)] [vI 0] (mk h τ)
      refine a_if_eq (tgt := 22) dX8_latest_8 (by decide) (fun _ => ?_) (fun c => absurd c (by decide))
      refine a_ldc (z := (-1000000001)) dX8_latest_22 kwX8_72 ⟨by decide, by decide, by decide⟩ ?_
      exact a_iret dX8_latest_24 rfl (post_v (kQ h Fr_r hC) (by unfold vLatest; rw [if_neg hin]))
set_option maxHeartbeats 8000000 in
theorem l_latR {γ : GT} {d : Nat} {T : Nat → Nat → Int} {N : Nat → Int} {s q : Int} {h : Nat → Nat → Int} {τ : List AC} {Post : Option AV → List AC → Prop} (hd : 6 ≤ d) (hT : tOK T) (hTe : tt N = T) (hN : h 124 = N) (hX : NX N) (hs : 0 ≤ s ∧ s < T 0 3) (kQ : ∀ h', Fr [123, 127, 128, 129, 130, 131, 132, 133, 134, 135, 136, 143, 144] h h' → K3 h h' → RC h' N → Post (some (vI (ltF (fndV (ltP T s q) 0 1470)))) (mk h' τ)) :
    ∀ (f i : Nat) (h1 : Nat → Nat → Int), i ≤ 1470 → 1470 < i + f → Fr [123, 127, 128, 129, 130, 131, 132, 133, 134, 135, 136, 143, 144] h h1 → (K3 h h1) → (RC h1 N) → (fndV (ltP T s q) 0 1470 = fndV (ltP T s q) i 1470) → Aj γ mX9_latest d 0 0 Post 26 [(3, vI (1469 - ((i : Nat) : Int))), (0, vA 123), (1, vI s), (2, vI q)] [] (mk h1 τ) := by
  intro f
  induction f with
  | zero => intro i h1  h1_ h2_; omega
  | succ f ih =>
    intro i h1  h1_ h2_ hF ik ic iv
    have h3_ := hT.2.2.2.1
    refine a_iload_n (j := 0) dX9_latest_26 rfl rfl ?_
    refine a_if_lt (tgt := 53) dX9_latest_27 (by decide) (fun c27_1 => ?_) (fun c27_1 => ?_)
    · refine a_ldc (z := (-1000000005)) dX9_latest_53 kwX9_115 ⟨by decide, by decide, by decide⟩ ?_
      exact a_iret dX9_latest_55 rfl (post_v (kQ h1 hF ik ic) (by rw [iv, fnd_0 (by omega)]; rfl))
    · refine a_aload_n (j := 1) dX9_latest_30 rfl rfl (Nat.le_of_ble_eq_true rfl) ?_
      refine a_iload_n (j := 0) dX9_latest_31 rfl rfl ?_
      refine b_callV (d' := d - 1) (mc' := 0) (ms' := 0) (mc1 := 0) (ms1 := 0) (st := []) (b := 123) [vI (1469 - ((i : Nat) : Int))] dX9_latest_32 mwX9_learnsFrom lkX9_222 (by decide) rfl rc_X9 rfl (Nat.le_of_ble_eq_true rfl) (by omega) rfl rfl (k_from (N := N) (mi := (1469 - ((i : Nat) : Int))) (by omega) ((hF 124 (by decide)).trans hN) hX.1 ic (by omega) (fun h7 hF7 k7 c7 t7 g7 => ?_))
      rw [hTe] at t7 g7
      show Aj γ mX9_latest d 0 0 Post 35 [(3, vI (1469 - ((i : Nat) : Int))), (0, vA 123), (1, vI s), (2, vI q)] [] (mk h7 τ)
      refine a_aload_n (j := 1) dX9_latest_35 rfl rfl (Nat.le_of_ble_eq_true rfl) ?_
      refine a_iload_n (j := 2) dX9_latest_36 rfl rfl ?_
      refine a_iload_n (j := 0) dX9_latest_37 rfl rfl ?_
      refine b_callV (d' := d - 1) (mc' := 0) (ms' := 0) (mc1 := 0) (ms1 := 0) (st := []) (b := 123) [vI s, vI (1469 - ((i : Nat) : Int))] dX9_latest_38 mwX9_sureAt lkX9_209 (by decide) rfl rc_X9 rfl (Nat.le_of_ble_eq_true rfl) (by omega) rfl rfl (c_X9_sureAtW (T := T) (lo := (1469 - ((i : Nat) : Int))) (by omega) hT t7 g7 (by omega) (by omega) (by omega) ?_)
      show Aj γ mX9_latest d 0 0 Post 41 [(3, vI (1469 - ((i : Nat) : Int))), (0, vA 123), (1, vI s), (2, vI q)] [vI (WT 1 T s (1469 - ((i : Nat) : Int)))] (mk h7 τ)
      refine a_iload_n (j := 3) dX9_latest_41 rfl rfl ?_
      refine a_icmp_lt (tgt := 47) dX9_latest_42 (by decide) (fun c42_2 => ?_) (fun c42_2 => ?_)
      · refine a_iinc (j := 0) (z' := ((1469 - ((i : Nat) : Int)) - 1)) (lv' := [(3, vI ((1469 - ((i : Nat) : Int)) - 1)), (0, vA 123), (1, vI s), (2, vI q)]) dX9_latest_47 rfl (w_ok (by omega) (by omega)) (by decide) rfl ?_
        refine a_goto (tgt := 26) dX9_latest_50 (by decide) ?_
        rw [show (1469 - ((i : Nat) : Int)) - 1 = 1469 - (((i + 1) : Nat) : Int) by omega]
        refine a_lv (lv' := [(3, vI (1469 - (((i + 1) : Nat) : Int))), (0, vA 123), (1, vI s), (2, vI q)]) (by intro q hq; simp only [List.mem_cons, List.not_mem_nil, or_false] at hq ⊢; rcases hq with rfl | rfl | rfl | rfl <;> simp) (ih (i + 1) h7 (by omega) (by omega) (Fr_t hF hF7) (K3_t ik k7) c7 (iv.trans (fnd_s (fun e => by have e : q ≤ WT 1 T s (1469 - ((i : Nat) : Int)) := e; omega))))
      · refine a_iload_n (j := 0) dX9_latest_45 rfl rfl ?_
        exact a_iret dX9_latest_46 rfl (post_v (kQ h7 (Fr_t hF hF7) (K3_t ik k7) c7) (by rw [iv, fnd_h (by omega) (show q ≤ WT 1 T s (1469 - ((i : Nat) : Int)) by omega)]; unfold ltF; rw [if_neg (by omega)]))
set_option maxHeartbeats 8000000 in
theorem q_X9_latest {γ : GT} {d : Nat} {s q : Int} {N : Nat → Int} {h : Nat → Nat → Int} {τ : List AC} {Post : Option AV → List AC → Prop} (hd : 12 ≤ d) (hN : h 124 = N) (hX : NX N) (hC : RC h N) (kQ : ∀ h', Fr [123, 127, 128, 129, 130, 131, 132, 133, 134, 135, 136, 143, 144] h h' → K3 h h' → RC h' N → Post (some (vI (vLatest N s q))) (mk h' τ)) : Cj γ mX9_latest d 0 0 [vA 123, vI s, vI q] (mk h τ) Post := by
  have hsc := hX.1.1
  have hs1 := hsc.1
  have hs2 := hsc.2.1
  have hs3 := hsc.2.2.1
  have hs4 := hsc.2.2.2.1
  have hs5 := hsc.2.2.2.2
  have hx7 := hX.2.1
  have hx8 := hX.2.2.2.1
  obtain ⟨T, hTe⟩ : ∃ T, tt N = T := ⟨_, rfl⟩
  have hT : tOK T := hTe ▸ tt_OK hX.1
  have hNT : NTr N T := hTe ▸ NT_tt hX.1
  have e02 : N 5 = T 0 2 := hNT.1.2.2.1
  have e03 : N 4 = T 0 3 := hNT.1.2.2.2
  by_cases hin : (0 ≤ s ∧ s < N 4) ∧ (0 ≤ q ∧ q ≤ 10000)
  · skip
    refine c_of (by decide) (Nat.le_of_ble_eq_true rfl) ?_
    show Aj γ mX9_latest d 0 0 Post 0 [(0, vA 123), (1, vI s), (2, vI q)] [] (mk h τ)
    refine a_aload_n (j := 0) dX9_latest_0 rfl rfl (Nat.le_of_ble_eq_true rfl) ?_
    refine a_iload_n (j := 1) dX9_latest_1 rfl rfl ?_
    refine b_callV (d' := d - 1) (mc' := 0) (ms' := 0) (mc1 := 0) (ms1 := 0) (st := []) (b := 123) [vI s] dX9_latest_2 mwX9_isStop lkX9_148 (by decide) rfl rc_X9 rfl (Nat.le_of_ble_eq_true rfl) (by omega) rfl rfl (c_X9_isStop (v1 := (N 4)) (by omega)  (congrFun hN _) (show 0 ≤ (N 4) ∧ (N 4) ≤ 6 by omega) (fun t2_1 => ?_) (fun t2_1 => ?_))
    · have t2_1 : 0 ≤ s ∧ s < (N 4) := t2_1
      show Aj γ mX9_latest d 0 0 Post 5 [(0, vA 123), (1, vI s), (2, vI q)] [vI 1] (mk h τ)
      refine a_if_eq (tgt := 19) dX9_latest_5 (by decide) (fun c => absurd c (by decide)) (fun _ => ?_)
      refine a_iload_n (j := 2) dX9_latest_8 rfl rfl ?_
      refine a_iconst dX9_latest_9 ⟨by decide, by decide⟩ ?_
      refine a_sipush dX9_latest_10 ⟨by decide, by decide, by decide⟩ ?_
      refine a_callS (d' := d - 1) (mc' := 0) (ms' := 0) (mc1 := 0) (ms1 := 0) (st := []) [vI q, vI 0, vI 10000] dX9_latest_13 mwX9_in lkX9_103 rfl (Nat.le_of_ble_eq_true rfl) (by omega) rfl rfl (c_X9_in  (by omega)    (fun t13_2 => ?_) (fun t13_2 => ?_))
      · have t13_2 : 0 ≤ q ∧ q ≤ 10000 := t13_2
        show Aj γ mX9_latest d 0 0 Post 16 [(0, vA 123), (1, vI s), (2, vI q)] [vI 1] (mk h τ)
        refine a_if_ne (tgt := 22) dX9_latest_16 (by decide) (fun _ => ?_) (fun c => absurd c (by decide))
        refine a_sipush dX9_latest_22 ⟨by decide, by decide, by decide⟩ ?_
        refine a_istore_n (lv' := [(3, vI 1469), (0, vA 123), (1, vI s), (2, vI q)]) dX9_latest_25 rfl (by decide) rfl ?_
        exact a_lv (lv' := [(3, vI 1469), (0, vA 123), (1, vI s), (2, vI q)]) (by intro q hq; simp only [List.mem_cons, List.not_mem_nil, or_false] at hq ⊢; rcases hq with rfl | rfl | rfl | rfl <;> simp) (l_latR (h := h) (T := T) (N := N) (s := s) (q := q) (by omega) hT hTe hN hX (by omega) (fun h' a b c => post_v (kQ h' a b c) (by unfold vLatest; rw [if_pos hin, hTe])) 1471 0 h (by omega) (by omega) Fr_r K3_r hC rfl)
      · have t13_2 : ¬ (0 ≤ q ∧ q ≤ 10000) := t13_2
        show Aj γ mX9_latest d 0 0 Post 16 [(0, vA 123), (1, vI s), (2, vI q)] [vI 0] (mk h τ)
        refine a_if_ne (tgt := 22) dX9_latest_16 (by decide) (fun c => absurd c (by decide)) (fun _ => ?_)
        refine a_ldc (z := (-1000000001)) dX9_latest_19 kwX9_146 ⟨by decide, by decide, by decide⟩ ?_
        exact a_iret dX9_latest_21 rfl (absurd hin (by omega))
    · have t2_1 : ¬ (0 ≤ s ∧ s < (N 4)) := t2_1
      show Aj γ mX9_latest d 0 0 Post 5 [(0, vA 123), (1, vI s), (2, vI q)] [vI 0] (mk h τ)
      refine a_if_eq (tgt := 19) dX9_latest_5 (by decide) (fun _ => ?_) (fun c => absurd c (by decide))
      refine a_ldc (z := (-1000000001)) dX9_latest_19 kwX9_146 ⟨by decide, by decide, by decide⟩ ?_
      exact a_iret dX9_latest_21 rfl (absurd hin (by omega))
  · refine c_of (by decide) (Nat.le_of_ble_eq_true rfl) ?_
    show Aj γ mX9_latest d 0 0 Post 0 [(0, vA 123), (1, vI s), (2, vI q)] [] (mk h τ)
    refine a_aload_n (j := 0) dX9_latest_0 rfl rfl (Nat.le_of_ble_eq_true rfl) ?_
    refine a_iload_n (j := 1) dX9_latest_1 rfl rfl ?_
    refine b_callV (d' := d - 1) (mc' := 0) (ms' := 0) (mc1 := 0) (ms1 := 0) (st := []) (b := 123) [vI s] dX9_latest_2 mwX9_isStop lkX9_148 (by decide) rfl rc_X9 rfl (Nat.le_of_ble_eq_true rfl) (by omega) rfl rfl (c_X9_isStop (v1 := (N 4)) (by omega)  (congrFun hN _) (show 0 ≤ (N 4) ∧ (N 4) ≤ 6 by omega) (fun t2_1 => ?_) (fun t2_1 => ?_))
    · have t2_1 : 0 ≤ s ∧ s < (N 4) := t2_1
      show Aj γ mX9_latest d 0 0 Post 5 [(0, vA 123), (1, vI s), (2, vI q)] [vI 1] (mk h τ)
      refine a_if_eq (tgt := 19) dX9_latest_5 (by decide) (fun c => absurd c (by decide)) (fun _ => ?_)
      refine a_iload_n (j := 2) dX9_latest_8 rfl rfl ?_
      refine a_iconst dX9_latest_9 ⟨by decide, by decide⟩ ?_
      refine a_sipush dX9_latest_10 ⟨by decide, by decide, by decide⟩ ?_
      refine a_callS (d' := d - 1) (mc' := 0) (ms' := 0) (mc1 := 0) (ms1 := 0) (st := []) [vI q, vI 0, vI 10000] dX9_latest_13 mwX9_in lkX9_103 rfl (Nat.le_of_ble_eq_true rfl) (by omega) rfl rfl (c_X9_in  (by omega)    (fun t13_2 => ?_) (fun t13_2 => ?_))
      · have t13_2 : 0 ≤ q ∧ q ≤ 10000 := t13_2
        show Aj γ mX9_latest d 0 0 Post 16 [(0, vA 123), (1, vI s), (2, vI q)] [vI 1] (mk h τ)
        refine a_if_ne (tgt := 22) dX9_latest_16 (by decide) (fun _ => ?_) (fun c => absurd c (by decide))
        exact absurd (by omega) hin
      · have t13_2 : ¬ (0 ≤ q ∧ q ≤ 10000) := t13_2
        show Aj γ mX9_latest d 0 0 Post 16 [(0, vA 123), (1, vI s), (2, vI q)] [vI 0] (mk h τ)
        refine a_if_ne (tgt := 22) dX9_latest_16 (by decide) (fun c => absurd c (by decide)) (fun _ => ?_)
        refine a_ldc (z := (-1000000001)) dX9_latest_19 kwX9_146 ⟨by decide, by decide, by decide⟩ ?_
        exact a_iret dX9_latest_21 rfl (post_v (kQ h Fr_r K3_r hC) (by unfold vLatest; rw [if_neg hin]))
    · have t2_1 : ¬ (0 ≤ s ∧ s < (N 4)) := t2_1
      show Aj γ mX9_latest d 0 0 Post 5 [(0, vA 123), (1, vI s), (2, vI q)] [vI 0] (mk h τ)
      refine a_if_eq (tgt := 19) dX9_latest_5 (by decide) (fun _ => ?_) (fun c => absurd c (by decide))
      refine a_ldc (z := (-1000000001)) dX9_latest_19 kwX9_146 ⟨by decide, by decide, by decide⟩ ?_
      exact a_iret dX9_latest_21 rfl (post_v (kQ h Fr_r K3_r hC) (by unfold vLatest; rw [if_neg hin]))
set_option maxHeartbeats 8000000 in
theorem l_gaX {γ : GT} {d : Nat} {T : Nat → Nat → Int} {N : Nat → Int} {n : Nat} {q : Int} {h : Nat → Nat → Int} {τ : List AC} {Post : Option AV → List AC → Prop} (hd : 6 ≤ d) (hT : tOK T) (hTe : tt N = T) (hTT : TT h T) (hk0 : h 78 0 = 0) (hg : CHp h 78 0 T (plT T 0)) (hR : WR h τ 1 N) (hX : NX N) (hn : N 8 = ((n : Nat) : Int)) (kQ : Post (some (vI (if N 8 = 0 then -1000000005 else if q = 0 then (gaS N n).1 else (gaS N n).2))) (mk h τ)) :
    ∀ (f i : Nat) (x : Int) (y : Int), i ≤ n → n < i + f → ((i = 0 ∧ x = -1000000005 ∧ y = -1000000005) ∨ (0 < i ∧ 0 ≤ x ∧ 0 ≤ y ∧ gaS N i = (x, y))) → Aj γ mX8_gather d 0 0 Post 38 [(5, vI ((i : Nat) : Int)), (3, vI y), (4, vI x), (2, vA 78), (0, vA 0), (1, vI q)] [] (mk h τ) := by
  intro f
  induction f with
  | zero => intro i x y h1_ h2_; omega
  | succ f ih =>
    intro i x y h1_ h2_ iv
    have hs4 := hX.1.1.2.2.2.1
    have hx8 := hX.2.2.2.1
    have ig : 0 < i → gaS N i = (x, y) := fun h0 => by rcases iv with c | c; omega; exact c.2.2.2
    have iw : (i = 0 ∧ x = -1000000005 ∧ y = -1000000005) ∨ (0 < i ∧ 0 ≤ x ∧ 0 ≤ y) := by rcases iv with c | c; exact Or.inl c; exact Or.inr ⟨c.1, c.2.1, c.2.2.1⟩
    refine a_iload (j := 0) dX8_gather_38 rfl ?_
    refine a_aload_n (j := 4) dX8_gather_40 rfl rfl (Nat.le_of_ble_eq_true rfl) ?_
    refine b_getp (a := 0) (p := 1) dX8_gather_41 fwX8_14 (by decide) rfl (by decide) rfl rfl ?_
    refine b_get (a := 1) (z := ((n : Nat) : Int)) (t := 0) dX8_gather_44 fwX8_250 (by decide) rfl (by decide) rfl rfl (hR.1.2.2.2.2.2.2.2.1.trans hn) ?_
    refine a_icmp_ge (tgt := 106) dX8_gather_47 (by decide) (fun c47_1 => ?_) (fun c47_1 => ?_)
    · refine a_iload_n (j := 5) dX8_gather_106 rfl rfl ?_
      refine a_if_ne (tgt := 115) dX8_gather_107 (by decide) (fun c107_2 => ?_) (fun c107_2 => ?_)
      · refine a_iload_n (j := 1) dX8_gather_115 rfl rfl ?_
        exact a_iret dX8_gather_116 rfl (by obtain rfl : i = n := (by omega); exact post_v kQ (by rcases iv with c | c; (rw [if_pos (by omega)]; omega); (rw [if_neg (by omega), c.2.2.2]; first | (rw [if_pos (by omega)]; done) | (rw [if_neg (by omega)]; done) | (exfalso; omega))))
      · refine a_iload (j := 2) dX8_gather_110 rfl ?_
        refine a_goto (tgt := 116) dX8_gather_112 (by decide) ?_
        exact a_iret dX8_gather_116 rfl (by obtain rfl : i = n := (by omega); exact post_v kQ (by rcases iv with c | c; (rw [if_pos (by omega)]; omega); (rw [if_neg (by omega), c.2.2.2]; first | (rw [if_pos (by omega)]; done) | (rw [if_neg (by omega)]; done) | (exfalso; omega))))
    · have hgi := hX.2.2.2.2 i (by omega)
      have hwr := WT0_rng hT (stop := N (153 + 2 * i)) (m := N (153 + 2 * i + 1)) (by omega) (by omega)
      have hge : gaV N i = WT 0 T (N (153 + 2 * i)) (N (153 + 2 * i + 1)) := by unfold gaV; rw [hTe]
      rw [← hge] at hwr
      refine a_aload_n (j := 3) dX8_gather_50 rfl rfl (Nat.le_of_ble_eq_true rfl) ?_
      refine a_aload_n (j := 4) dX8_gather_51 rfl rfl (Nat.le_of_ble_eq_true rfl) ?_
      refine b_getp (a := 0) (p := 63) dX8_gather_52 fwX8_24 (by decide) rfl (by decide) rfl rfl ?_
      refine a_aload_n (j := 4) dX8_gather_55 rfl rfl (Nat.le_of_ble_eq_true rfl) ?_
      refine b_getp (a := 0) (p := 1) dX8_gather_56 fwX8_14 (by decide) rfl (by decide) rfl rfl ?_
      refine b_getp (a := 1) (p := 6) dX8_gather_59 fwX8_253 (by decide) rfl (by decide) rfl rfl ?_
      refine a_iload (j := 0) dX8_gather_62 rfl ?_
      refine b_iaload (a := 6) (z := N (153 + 2 * i)) i dX8_gather_64 (by decide) rfl rfl (by omega) (sp_nil rfl _) (hR.2.2.2.2.2 i (by omega)).1 (fun r64_3 => ?_)
      refine a_aload_n (j := 4) dX8_gather_65 rfl rfl (Nat.le_of_ble_eq_true rfl) ?_
      refine b_getp (a := 0) (p := 1) dX8_gather_66 fwX8_14 (by decide) rfl (by decide) rfl rfl ?_
      refine b_getp (a := 1) (p := 7) dX8_gather_69 fwX8_256 (by decide) rfl (by decide) rfl rfl ?_
      refine a_iload (j := 0) dX8_gather_72 rfl ?_
      refine b_iaload (a := 7) (z := N (153 + 2 * i + 1)) i dX8_gather_74 (by decide) rfl rfl (by omega) (sp_nil rfl _) (hR.2.2.2.2.2 i (by omega)).2 (fun r74_4 => ?_)
      refine b_callV (d' := d - 1) (mc' := 0) (ms' := 0) (mc1 := 0) (ms1 := 0) (st := []) (b := 78) [vA 63, vI (N (153 + 2 * i)), vI (N (153 + 2 * i + 1))] dX8_gather_75 mwX0_worthAt lkX8_211 (by decide) rfl rc_X0 rfl (Nat.le_of_ble_eq_true rfl) (by omega) rfl rfl (c_X0_worthAt_78 (κ := 0) (T := T) (s := N (153 + 2 * i)) (m := N (153 + 2 * i + 1)) (by omega) hk0 rfl hT hTT (by omega) (by omega) (fun e1 e2 => hg _ _ (by omega) (by omega) e1 (by omega) (by omega) (plT_mono (by omega))) ?_)
      rw [← hTe]
      show Aj γ mX8_gather d 0 0 Post 78 [(5, vI ((i : Nat) : Int)), (3, vI y), (4, vI x), (2, vA 78), (0, vA 0), (1, vI q)] [vI (gaV N i)] (mk h τ)
      have hnew : x < gaV N i → gaS N (i + 1) = (gaV N i, (i : Int)) := fun c => by
        rcases iv with c2 | c2
        · obtain rfl : i = 0 := c2.1
          exact ga_y (x := -1) (y := 0) rfl (by omega)
        · exact ga_y c2.2.2.2 c
      refine a_istore (lv' := [(6, vI (gaV N i)), (5, vI ((i : Nat) : Int)), (3, vI y), (4, vI x), (2, vA 78), (0, vA 0), (1, vI q)]) dX8_gather_78 (by decide) rfl ?_
      refine a_iload_n (j := 2) dX8_gather_80 rfl rfl ?_
      refine a_ldc (z := (-1000000005)) dX8_gather_81 kwX8_159 ⟨by decide, by decide, by decide⟩ ?_
      refine a_icmp_eq (tgt := 93) dX8_gather_83 (by decide) (fun c83_5 => ?_) (fun c83_5 => ?_)
      · refine a_iload (j := 1) dX8_gather_93 rfl ?_
        refine a_istore_n (lv' := [(3, vI ((i : Nat) : Int)), (6, vI (gaV N i)), (5, vI ((i : Nat) : Int)), (4, vI x), (2, vA 78), (0, vA 0), (1, vI q)]) dX8_gather_95 rfl (by decide) rfl ?_
        refine a_iload (j := 1) dX8_gather_96 rfl ?_
        refine a_istore (lv' := [(4, vI (gaV N i)), (3, vI ((i : Nat) : Int)), (6, vI (gaV N i)), (5, vI ((i : Nat) : Int)), (2, vA 78), (0, vA 0), (1, vI q)]) dX8_gather_98 (by decide) rfl ?_
        have hnew := hnew (by omega)
        refine a_iinc (j := 3) (z' := ((i + 1 : Nat) : Int)) (lv' := [(5, vI ((i + 1 : Nat) : Int)), (4, vI (gaV N i)), (3, vI ((i : Nat) : Int)), (6, vI (gaV N i)), (2, vA 78), (0, vA 0), (1, vI q)]) dX8_gather_100 rfl (w_okN (by omega) (by omega) (by omega)) (by decide) rfl ?_
        refine a_goto (tgt := 38) dX8_gather_103 (by decide) ?_
        refine a_lv (lv' := [(5, vI (((i + 1) : Nat) : Int)), (3, vI ((i : Nat) : Int)), (4, vI (gaV N i)), (2, vA 78), (0, vA 0), (1, vI q)]) (by intro q hq; simp only [List.mem_cons, List.not_mem_nil, or_false] at hq ⊢; rcases hq with rfl | rfl | rfl | rfl | rfl | rfl <;> simp) (ih (i + 1) (gaV N i) ((i : Nat) : Int) (by omega) (by omega) (Or.inr ⟨by omega, by omega, by omega, hnew⟩))
      · refine a_iload (j := 0) dX8_gather_86 rfl ?_
        refine a_iload (j := 3) dX8_gather_88 rfl ?_
        refine a_icmp_le (tgt := 100) dX8_gather_90 (by decide) (fun c90_6 => ?_) (fun c90_6 => ?_)
        · refine a_iinc (j := 1) (z' := ((i + 1 : Nat) : Int)) (lv' := [(5, vI ((i + 1 : Nat) : Int)), (6, vI (gaV N i)), (3, vI y), (4, vI x), (2, vA 78), (0, vA 0), (1, vI q)]) dX8_gather_100 rfl (w_okN (by omega) (by omega) (by omega)) (by decide) rfl ?_
          refine a_goto (tgt := 38) dX8_gather_103 (by decide) ?_
          refine a_lv (lv' := [(5, vI (((i + 1) : Nat) : Int)), (3, vI y), (4, vI x), (2, vA 78), (0, vA 0), (1, vI q)]) (by intro q hq; simp only [List.mem_cons, List.not_mem_nil, or_false] at hq ⊢; rcases hq with rfl | rfl | rfl | rfl | rfl | rfl <;> simp) (ih (i + 1) x y (by omega) (by omega) (Or.inr ⟨by omega, by omega, by omega, ga_n (ig (by omega)) (by omega)⟩))
        · refine a_iload (j := 1) dX8_gather_93 rfl ?_
          refine a_istore_n (lv' := [(3, vI ((i : Nat) : Int)), (6, vI (gaV N i)), (5, vI ((i : Nat) : Int)), (4, vI x), (2, vA 78), (0, vA 0), (1, vI q)]) dX8_gather_95 rfl (by decide) rfl ?_
          refine a_iload (j := 1) dX8_gather_96 rfl ?_
          refine a_istore (lv' := [(4, vI (gaV N i)), (3, vI ((i : Nat) : Int)), (6, vI (gaV N i)), (5, vI ((i : Nat) : Int)), (2, vA 78), (0, vA 0), (1, vI q)]) dX8_gather_98 (by decide) rfl ?_
          have hnew := hnew (by omega)
          refine a_iinc (j := 3) (z' := ((i + 1 : Nat) : Int)) (lv' := [(5, vI ((i + 1 : Nat) : Int)), (4, vI (gaV N i)), (3, vI ((i : Nat) : Int)), (6, vI (gaV N i)), (2, vA 78), (0, vA 0), (1, vI q)]) dX8_gather_100 rfl (w_okN (by omega) (by omega) (by omega)) (by decide) rfl ?_
          refine a_goto (tgt := 38) dX8_gather_103 (by decide) ?_
          refine a_lv (lv' := [(5, vI (((i + 1) : Nat) : Int)), (3, vI ((i : Nat) : Int)), (4, vI (gaV N i)), (2, vA 78), (0, vA 0), (1, vI q)]) (by intro q hq; simp only [List.mem_cons, List.not_mem_nil, or_false] at hq ⊢; rcases hq with rfl | rfl | rfl | rfl | rfl | rfl <;> simp) (ih (i + 1) (gaV N i) ((i : Nat) : Int) (by omega) (by omega) (Or.inr ⟨by omega, by omega, by omega, hnew⟩))
theorem WR_c {h h' : Nat → Nat → Int} {τ : List AC} {w : Nat} {N : Nat → Int} (hw : isWd w) (hF : Fr [63, 64, 65, 66, 67, 68, 69, 70, 71, 72, 73, 74, 75, 76, 77, 78, 79, 80, 81, 82, 83] h h') (hX : NX N) (hR : WR h τ w N) : WR h' τ w N := by
  have h5 := hX.1.1.2.2.2.2
  exact WR_fr hw hF hR (by omega)
set_option maxHeartbeats 8000000 in
theorem q_X8_gather {γ : GT} {d : Nat} {q : Int} {N J : Nat → Int} {h : Nat → Nat → Int} {τ : List AC} {Post : Option AV → List AC → Prop} (hd : 12 ≤ d) (hR : WR h τ 1 N) (hX : NX N) (hC : CC h N J) (kQ : ∀ h', Fr [63, 64, 65, 66, 67, 68, 69, 70, 71, 72, 73, 74, 75, 76, 77, 78, 79, 80, 81, 82, 83] h h' → CC h' N J → Post (some (vI (vGather N q))) (mk h' τ)) : Cj γ mX8_gather d 0 0 [vA 0, vI q] (mk h τ) Post := by
  have hsc := hX.1.1
  have hs1 := hsc.1
  have hs2 := hsc.2.1
  have hs3 := hsc.2.2.1
  have hs4 := hsc.2.2.2.1
  have hs5 := hsc.2.2.2.2
  have hx7 := hX.2.1
  have hx8 := hX.2.2.2.1
  obtain ⟨T, hTe⟩ : ∃ T, tt N = T := ⟨_, rfl⟩
  have hT : tOK T := hTe ▸ tt_OK hX.1
  have hNT : NTr N T := hTe ▸ NT_tt hX.1
  have e02 : N 5 = T 0 2 := hNT.1.2.2.1
  have e03 : N 4 = T 0 3 := hNT.1.2.2.2
  by_cases hin : 0 ≤ q ∧ q ≤ 1
  · skip
    obtain ⟨n, hn⟩ : ∃ n : Nat, N 8 = (n : Int) := ⟨Int.toNat (N 8), by omega⟩
    refine c_of (by decide) (Nat.le_of_ble_eq_true rfl) ?_
    show Aj γ mX8_gather d 0 0 Post 0 [(0, vA 0), (1, vI q)] [] (mk h τ)
    refine a_iload_n (j := 1) dX8_gather_0 rfl rfl ?_
    refine a_iconst dX8_gather_1 ⟨by decide, by decide⟩ ?_
    refine a_iconst dX8_gather_2 ⟨by decide, by decide⟩ ?_
    refine a_callS (d' := d - 1) (mc' := 0) (ms' := 0) (mc1 := 0) (ms1 := 0) (st := []) [vI q, vI 0, vI 1] dX8_gather_3 mwX8_within lkX8_68 rfl (Nat.le_of_ble_eq_true rfl) (by omega) rfl rfl (c_X8_within  (by omega)    (fun t3_1 => ?_) (fun t3_1 => ?_))
    · have t3_1 : 0 ≤ q ∧ q ≤ 1 := t3_1
      show Aj γ mX8_gather d 0 0 Post 6 [(0, vA 0), (1, vI q)] [vI 1] (mk h τ)
      refine a_if_ne (tgt := 12) dX8_gather_6 (by decide) (fun _ => ?_) (fun c => absurd c (by decide))
      refine a_aload_n (j := 0) dX8_gather_12 rfl rfl (Nat.le_of_ble_eq_true rfl) ?_
      refine b_getp (a := 0) (p := 78) dX8_gather_13 fwX8_33 (by decide) rfl (by decide) rfl rfl ?_
      refine a_aload_n (j := 0) dX8_gather_16 rfl rfl (Nat.le_of_ble_eq_true rfl) ?_
      refine b_getp (a := 0) (p := 63) dX8_gather_17 fwX8_24 (by decide) rfl (by decide) rfl rfl ?_
      refine a_aload_n (j := 0) dX8_gather_20 rfl rfl (Nat.le_of_ble_eq_true rfl) ?_
      refine b_getp (a := 0) (p := 1) dX8_gather_21 fwX8_14 (by decide) rfl (by decide) rfl rfl ?_
      refine b_callV (d' := d - 1) (mc' := 0) (ms' := 0) (mc1 := 0) (ms1 := 0) (st := []) (b := 78) [vA 63, vA 1] dX8_gather_24 mwX0_drawnFor lkX8_207 (by decide) rfl rc_X0 rfl (Nat.le_of_ble_eq_true rfl) (by omega) rfl rfl (k_drawn_78 (N := N) (J := J) (by omega) hR hX.1 hC (fun h7 hF7 c7 t7 g7 => ?_))
      rw [hTe] at t7 g7
      show Aj γ mX8_gather d 0 0 Post 27 [(0, vA 0), (1, vI q)] [vA 78] (mk h7 τ)
      refine a_astore_n (lv' := [(2, vA 78), (0, vA 0), (1, vI q)]) dX8_gather_27 rfl (by decide) (Nat.le_of_ble_eq_true rfl) rfl ?_
      refine a_ldc (z := (-1000000005)) dX8_gather_28 kwX8_159 ⟨by decide, by decide, by decide⟩ ?_
      refine a_istore_n (lv' := [(3, vI (-1000000005)), (2, vA 78), (0, vA 0), (1, vI q)]) dX8_gather_30 rfl (by decide) rfl ?_
      refine a_ldc (z := (-1000000005)) dX8_gather_31 kwX8_159 ⟨by decide, by decide, by decide⟩ ?_
      refine a_istore (lv' := [(4, vI (-1000000005)), (3, vI (-1000000005)), (2, vA 78), (0, vA 0), (1, vI q)]) dX8_gather_33 (by decide) rfl ?_
      refine a_iconst dX8_gather_35 ⟨by decide, by decide⟩ ?_
      refine a_istore (lv' := [(5, vI 0), (4, vI (-1000000005)), (3, vI (-1000000005)), (2, vA 78), (0, vA 0), (1, vI q)]) dX8_gather_36 (by decide) rfl ?_
      exact a_lv (lv' := [(5, vI ((0 : Nat) : Int)), (3, vI (-1000000005)), (4, vI (-1000000005)), (2, vA 78), (0, vA 0), (1, vI q)]) (by intro q hq; simp only [List.mem_cons, List.not_mem_nil, or_false] at hq ⊢; rcases hq with rfl | rfl | rfl | rfl | rfl | rfl <;> simp) (l_gaX (h := h7) (T := T) (N := N) (n := n) (q := q) (by omega) hT hTe t7 c7.2.2.1.1.1 g7 (WR_c (Or.inl rfl) hF7 hX hR) hX hn (post_v (kQ h7 hF7 c7) (by unfold vGather; rw [if_pos hin, show Int.toNat (N 8) = n by omega])) (n + 1) 0 (-1000000005) (-1000000005) (by omega) (by omega) (Or.inl ⟨rfl, rfl, rfl⟩))
    · have t3_1 : ¬ (0 ≤ q ∧ q ≤ 1) := t3_1
      show Aj γ mX8_gather d 0 0 Post 6 [(0, vA 0), (1, vI q)] [vI 0] (mk h τ)
      refine a_if_ne (tgt := 12) dX8_gather_6 (by decide) (fun c => absurd c (by decide)) (fun _ => ?_)
      refine a_ldc (z := (-1000000001)) dX8_gather_9 kwX8_72 ⟨by decide, by decide, by decide⟩ ?_
      exact a_iret dX8_gather_11 rfl (absurd hin (by omega))
  · refine c_of (by decide) (Nat.le_of_ble_eq_true rfl) ?_
    show Aj γ mX8_gather d 0 0 Post 0 [(0, vA 0), (1, vI q)] [] (mk h τ)
    refine a_iload_n (j := 1) dX8_gather_0 rfl rfl ?_
    refine a_iconst dX8_gather_1 ⟨by decide, by decide⟩ ?_
    refine a_iconst dX8_gather_2 ⟨by decide, by decide⟩ ?_
    refine a_callS (d' := d - 1) (mc' := 0) (ms' := 0) (mc1 := 0) (ms1 := 0) (st := []) [vI q, vI 0, vI 1] dX8_gather_3 mwX8_within lkX8_68 rfl (Nat.le_of_ble_eq_true rfl) (by omega) rfl rfl (c_X8_within  (by omega)    (fun t3_1 => ?_) (fun t3_1 => ?_))
    · have t3_1 : 0 ≤ q ∧ q ≤ 1 := t3_1
      show Aj γ mX8_gather d 0 0 Post 6 [(0, vA 0), (1, vI q)] [vI 1] (mk h τ)
      refine a_if_ne (tgt := 12) dX8_gather_6 (by decide) (fun _ => ?_) (fun c => absurd c (by decide))
      exact absurd (by omega) hin
    · have t3_1 : ¬ (0 ≤ q ∧ q ≤ 1) := t3_1
      show Aj γ mX8_gather d 0 0 Post 6 [(0, vA 0), (1, vI q)] [vI 0] (mk h τ)
      refine a_if_ne (tgt := 12) dX8_gather_6 (by decide) (fun c => absurd c (by decide)) (fun _ => ?_)
      refine a_ldc (z := (-1000000001)) dX8_gather_9 kwX8_72 ⟨by decide, by decide, by decide⟩ ?_
      exact a_iret dX8_gather_11 rfl (post_v (kQ h Fr_r hC) (by unfold vGather; rw [if_neg hin]))
set_option maxHeartbeats 8000000 in
theorem l_gaR {γ : GT} {d : Nat} {N : Nat → Int} {n : Nat} {q : Int} {h : Nat → Nat → Int} {τ : List AC} {Post : Option AV → List AC → Prop} (hd : 13 ≤ d) (hN : h 124 = N) (hX : NX N) (hn : N 8 = ((n : Nat) : Int)) (kQ : ∀ h', Fr [123, 127, 128, 129, 130, 131, 132, 133, 134, 135, 136, 143, 144] h h' → K3 h h' → RC h' N → Post (some (vI (if q = 0 then (gaS N n).1 else (gaS N n).2))) (mk h' τ)) :
    ∀ (f i : Nat) (h1 : Nat → Nat → Int) (x y : Int), i ≤ n → n < i + f → Fr [123, 127, 128, 129, 130, 131, 132, 133, 134, 135, 136, 143, 144] h h1 → (K3 h h1) → (RC h1 N) → (gaS N i = (x, y)) → Aj γ mX9_gather d 0 0 Post 32 [(4, vI ((i : Nat) : Int)), (2, vI x), (3, vI y), (0, vA 123), (1, vI q)] [] (mk h1 τ) := by
  intro f
  induction f with
  | zero => intro i h1  x y  h1_ h2_; omega
  | succ f ih =>
    intro i h1  x y  h1_ h2_ hF ik ic iv
    have hs4 := hX.1.1.2.2.2.1
    have hx8 := hX.2.2.2.1
    refine a_iload (j := 0) dX9_gather_32 rfl ?_
    refine a_aload_n (j := 3) dX9_gather_34 rfl rfl (Nat.le_of_ble_eq_true rfl) ?_
    refine b_getp (a := 123) (p := 124) dX9_gather_35 fwX9_9 (by decide) rfl (by decide) rfl rfl ?_
    refine a_bipush dX9_gather_38 ⟨by decide, by decide, by decide⟩ ?_
    refine b_iaload (a := 124) (z := ((n : Nat) : Int)) 8 dX9_gather_40 (by decide) rfl rfl (by decide) rfl ((Fr_v hF (by decide)).trans ((congrFun hN 8).trans hn)) (fun r40_1 => ?_)
    refine a_icmp_ge (tgt := 110) dX9_gather_41 (by decide) (fun c41_2 => ?_) (fun c41_2 => ?_)
    · refine a_iload_n (j := 4) dX9_gather_110 rfl rfl ?_
      refine a_if_ne (tgt := 118) dX9_gather_111 (by decide) (fun c111_3 => ?_) (fun c111_3 => ?_)
      · refine a_iload_n (j := 2) dX9_gather_118 rfl rfl ?_
        exact a_iret dX9_gather_119 rfl (by obtain rfl : i = n := (by omega); exact post_v (kQ _ hF ik ic) (by rw [iv]; first | (rw [if_pos (by omega)]; done) | (rw [if_neg (by omega)]; done) | (exfalso; omega)))
      · refine a_iload_n (j := 1) dX9_gather_114 rfl rfl ?_
        refine a_goto (tgt := 119) dX9_gather_115 (by decide) ?_
        exact a_iret dX9_gather_119 rfl (by obtain rfl : i = n := (by omega); exact post_v (kQ _ hF ik ic) (by rw [iv]; first | (rw [if_pos (by omega)]; done) | (rw [if_neg (by omega)]; done) | (exfalso; omega)))
    · have hgi := hX.2.2.2.2 i (by omega)
      rw [show 153 + 2 * i + 1 = 154 + 2 * i by omega] at hgi
      have hme : vMean N (N (153 + 2 * i)) (N (154 + 2 * i)) = gaV N i := by unfold vMean gaV; rw [if_pos (by omega), show 153 + 2 * i + 1 = 154 + 2 * i by omega]
      refine a_aload_n (j := 3) dX9_gather_44 rfl rfl (Nat.le_of_ble_eq_true rfl) ?_
      refine a_aload_n (j := 3) dX9_gather_45 rfl rfl (Nat.le_of_ble_eq_true rfl) ?_
      refine b_getp (a := 123) (p := 124) dX9_gather_46 fwX9_9 (by decide) rfl (by decide) rfl rfl ?_
      refine a_sipush dX9_gather_49 ⟨by decide, by decide, by decide⟩ ?_
      refine a_iconst dX9_gather_52 ⟨by decide, by decide⟩ ?_
      refine a_iload (j := 0) dX9_gather_53 rfl ?_
      refine a_imul (z := (2 * ((i : Nat) : Int))) dX9_gather_55 (w_ok (by omega) (by omega)) ?_
      refine a_iadd (z := (153 + (2 * ((i : Nat) : Int)))) dX9_gather_56 (w_ok (by omega) (by omega)) ?_
      refine b_iaload (a := 124) (z := N (153 + 2 * i)) (153 + 2 * i) dX9_gather_57 (by decide) rfl (by omega) (by omega) (sp_nil rfl _) ((Fr_v hF (by decide)).trans (congrFun hN _)) (fun r57_4 => ?_)
      refine a_aload_n (j := 3) dX9_gather_58 rfl rfl (Nat.le_of_ble_eq_true rfl) ?_
      refine b_getp (a := 123) (p := 124) dX9_gather_59 fwX9_9 (by decide) rfl (by decide) rfl rfl ?_
      refine a_sipush dX9_gather_62 ⟨by decide, by decide, by decide⟩ ?_
      refine a_iconst dX9_gather_65 ⟨by decide, by decide⟩ ?_
      refine a_iload (j := 0) dX9_gather_66 rfl ?_
      refine a_imul (z := (2 * ((i : Nat) : Int))) dX9_gather_68 (w_ok (by omega) (by omega)) ?_
      refine a_iadd (z := (153 + (2 * ((i : Nat) : Int)))) dX9_gather_69 (w_ok (by omega) (by omega)) ?_
      refine a_iconst dX9_gather_70 ⟨by decide, by decide⟩ ?_
      refine a_iadd (z := ((153 + (2 * ((i : Nat) : Int))) + 1)) dX9_gather_71 (w_ok (by omega) (by omega)) ?_
      refine b_iaload (a := 124) (z := N (154 + 2 * i)) (154 + 2 * i) dX9_gather_72 (by decide) rfl (by omega) (by omega) (sp_nil rfl _) ((Fr_v hF (by decide)).trans (congrFun hN _)) (fun r72_5 => ?_)
      refine b_callV (d' := d - 1) (mc' := 0) (ms' := 0) (mc1 := 0) (ms1 := 0) (st := []) (b := 123) [vI (N (153 + 2 * i)), vI (N (154 + 2 * i))] dX9_gather_73 mwX9_mean lkX9_296 (by decide) rfl rc_X9 rfl (Nat.le_of_ble_eq_true rfl) (by omega) rfl rfl (q_X9_mean (N := N) (by omega) ((hF 124 (by decide)).trans hN) hX ic (fun h7 hF7 k7 c7 => ?_))
      rw [hme]
      show Aj γ mX9_gather d 0 0 Post 76 [(4, vI ((i : Nat) : Int)), (2, vI x), (3, vI y), (0, vA 123), (1, vI q)] [vI (gaV N i)] (mk h7 τ)
      refine a_istore (lv' := [(5, vI (gaV N i)), (4, vI ((i : Nat) : Int)), (2, vI x), (3, vI y), (0, vA 123), (1, vI q)]) dX9_gather_76 (by decide) rfl ?_
      refine a_iload (j := 0) dX9_gather_78 rfl ?_
      refine a_iload_n (j := 2) dX9_gather_80 rfl rfl ?_
      refine a_icmp_le (tgt := 89) dX9_gather_81 (by decide) (fun c81_6 => ?_) (fun c81_6 => ?_)
      · refine a_iload_n (j := 3) dX9_gather_89 rfl rfl ?_
        refine a_istore_n (lv' := [(3, vI y), (5, vI (gaV N i)), (4, vI ((i : Nat) : Int)), (2, vI x), (0, vA 123), (1, vI q)]) dX9_gather_90 rfl (by decide) rfl ?_
        refine a_iload (j := 1) dX9_gather_91 rfl ?_
        refine a_iload_n (j := 3) dX9_gather_93 rfl rfl ?_
        refine a_icmp_le (tgt := 102) dX9_gather_94 (by decide) (fun c94_7 => ?_) (fun c94_7 => ?_)
        · refine a_iload_n (j := 3) dX9_gather_102 rfl rfl ?_
          refine a_istore_n (lv' := [(2, vI x), (3, vI y), (5, vI (gaV N i)), (4, vI ((i : Nat) : Int)), (0, vA 123), (1, vI q)]) dX9_gather_103 rfl (by decide) rfl ?_
          refine a_iinc (j := 3) (z' := ((i + 1 : Nat) : Int)) (lv' := [(4, vI ((i + 1 : Nat) : Int)), (2, vI x), (3, vI y), (5, vI (gaV N i)), (0, vA 123), (1, vI q)]) dX9_gather_104 rfl (w_okN (by omega) (by omega) (by omega)) (by decide) rfl ?_
          refine a_goto (tgt := 32) dX9_gather_107 (by decide) ?_
          refine a_lv (lv' := [(4, vI (((i + 1) : Nat) : Int)), (2, vI x), (3, vI y), (0, vA 123), (1, vI q)]) (by intro q hq; simp only [List.mem_cons, List.not_mem_nil, or_false] at hq ⊢; rcases hq with rfl | rfl | rfl | rfl | rfl <;> simp) (ih (i + 1) h7 x y (by omega) (by omega) (Fr_t hF hF7) (K3_t ik k7) c7 (ga_n iv (by omega)))
        · refine a_iload (j := 1) dX9_gather_97 rfl ?_
          refine a_goto (tgt := 103) dX9_gather_99 (by decide) ?_
          refine a_istore_n (lv' := [(2, vI (gaV N i)), (3, vI y), (5, vI (gaV N i)), (4, vI ((i : Nat) : Int)), (0, vA 123), (1, vI q)]) dX9_gather_103 rfl (by decide) rfl ?_
          refine a_iinc (j := 3) (z' := ((i + 1 : Nat) : Int)) (lv' := [(4, vI ((i + 1 : Nat) : Int)), (2, vI (gaV N i)), (3, vI y), (5, vI (gaV N i)), (0, vA 123), (1, vI q)]) dX9_gather_104 rfl (w_okN (by omega) (by omega) (by omega)) (by decide) rfl ?_
          refine a_goto (tgt := 32) dX9_gather_107 (by decide) ?_
          exfalso
          omega
      · refine a_iload (j := 1) dX9_gather_84 rfl ?_
        refine a_goto (tgt := 90) dX9_gather_86 (by decide) ?_
        refine a_istore_n (lv' := [(3, vI ((i : Nat) : Int)), (5, vI (gaV N i)), (4, vI ((i : Nat) : Int)), (2, vI x), (0, vA 123), (1, vI q)]) dX9_gather_90 rfl (by decide) rfl ?_
        refine a_iload (j := 1) dX9_gather_91 rfl ?_
        refine a_iload_n (j := 3) dX9_gather_93 rfl rfl ?_
        refine a_icmp_le (tgt := 102) dX9_gather_94 (by decide) (fun c94_8 => ?_) (fun c94_8 => ?_)
        · refine a_iload_n (j := 3) dX9_gather_102 rfl rfl ?_
          refine a_istore_n (lv' := [(2, vI x), (3, vI ((i : Nat) : Int)), (5, vI (gaV N i)), (4, vI ((i : Nat) : Int)), (0, vA 123), (1, vI q)]) dX9_gather_103 rfl (by decide) rfl ?_
          refine a_iinc (j := 3) (z' := ((i + 1 : Nat) : Int)) (lv' := [(4, vI ((i + 1 : Nat) : Int)), (2, vI x), (3, vI ((i : Nat) : Int)), (5, vI (gaV N i)), (0, vA 123), (1, vI q)]) dX9_gather_104 rfl (w_okN (by omega) (by omega) (by omega)) (by decide) rfl ?_
          refine a_goto (tgt := 32) dX9_gather_107 (by decide) ?_
          exfalso
          omega
        · refine a_iload (j := 1) dX9_gather_97 rfl ?_
          refine a_goto (tgt := 103) dX9_gather_99 (by decide) ?_
          refine a_istore_n (lv' := [(2, vI (gaV N i)), (3, vI ((i : Nat) : Int)), (5, vI (gaV N i)), (4, vI ((i : Nat) : Int)), (0, vA 123), (1, vI q)]) dX9_gather_103 rfl (by decide) rfl ?_
          refine a_iinc (j := 3) (z' := ((i + 1 : Nat) : Int)) (lv' := [(4, vI ((i + 1 : Nat) : Int)), (2, vI (gaV N i)), (3, vI ((i : Nat) : Int)), (5, vI (gaV N i)), (0, vA 123), (1, vI q)]) dX9_gather_104 rfl (w_okN (by omega) (by omega) (by omega)) (by decide) rfl ?_
          refine a_goto (tgt := 32) dX9_gather_107 (by decide) ?_
          refine a_lv (lv' := [(4, vI (((i + 1) : Nat) : Int)), (2, vI (gaV N i)), (3, vI ((i : Nat) : Int)), (0, vA 123), (1, vI q)]) (by intro q hq; simp only [List.mem_cons, List.not_mem_nil, or_false] at hq ⊢; rcases hq with rfl | rfl | rfl | rfl | rfl <;> simp) (ih (i + 1) h7 (gaV N i) ((i : Nat) : Int) (by omega) (by omega) (Fr_t hF hF7) (K3_t ik k7) c7 (ga_y iv (by omega)))
set_option maxHeartbeats 8000000 in
theorem q_X9_gather {γ : GT} {d : Nat} {q : Int} {N : Nat → Int} {h : Nat → Nat → Int} {τ : List AC} {Post : Option AV → List AC → Prop} (hd : 14 ≤ d) (hN : h 124 = N) (hX : NX N) (hC : RC h N) (kQ : ∀ h', Fr [123, 127, 128, 129, 130, 131, 132, 133, 134, 135, 136, 143, 144] h h' → K3 h h' → RC h' N → Post (some (vI (vGather N q))) (mk h' τ)) : Cj γ mX9_gather d 0 0 [vA 123, vI q] (mk h τ) Post := by
  have hsc := hX.1.1
  have hs1 := hsc.1
  have hs2 := hsc.2.1
  have hs3 := hsc.2.2.1
  have hs4 := hsc.2.2.2.1
  have hs5 := hsc.2.2.2.2
  have hx7 := hX.2.1
  have hx8 := hX.2.2.2.1
  obtain ⟨T, hTe⟩ : ∃ T, tt N = T := ⟨_, rfl⟩
  have hT : tOK T := hTe ▸ tt_OK hX.1
  have hNT : NTr N T := hTe ▸ NT_tt hX.1
  have e02 : N 5 = T 0 2 := hNT.1.2.2.1
  have e03 : N 4 = T 0 3 := hNT.1.2.2.2
  by_cases hin : 0 ≤ q ∧ q ≤ 1
  · skip
    obtain ⟨n, hn⟩ : ∃ n : Nat, N 8 = (n : Int) := ⟨Int.toNat (N 8), by omega⟩
    refine c_of (by decide) (Nat.le_of_ble_eq_true rfl) ?_
    show Aj γ mX9_gather d 0 0 Post 0 [(0, vA 123), (1, vI q)] [] (mk h τ)
    refine a_iload_n (j := 1) dX9_gather_0 rfl rfl ?_
    refine a_iconst dX9_gather_1 ⟨by decide, by decide⟩ ?_
    refine a_iconst dX9_gather_2 ⟨by decide, by decide⟩ ?_
    refine a_callS (d' := d - 1) (mc' := 0) (ms' := 0) (mc1 := 0) (ms1 := 0) (st := []) [vI q, vI 0, vI 1] dX9_gather_3 mwX9_in lkX9_103 rfl (Nat.le_of_ble_eq_true rfl) (by omega) rfl rfl (c_X9_in  (by omega)    (fun t3_1 => ?_) (fun t3_1 => ?_))
    · have t3_1 : 0 ≤ q ∧ q ≤ 1 := t3_1
      show Aj γ mX9_gather d 0 0 Post 6 [(0, vA 123), (1, vI q)] [vI 1] (mk h τ)
      refine a_if_ne (tgt := 12) dX9_gather_6 (by decide) (fun _ => ?_) (fun c => absurd c (by decide))
      refine a_aload_n (j := 0) dX9_gather_12 rfl rfl (Nat.le_of_ble_eq_true rfl) ?_
      refine b_getp (a := 123) (p := 124) dX9_gather_13 fwX9_9 (by decide) rfl (by decide) rfl rfl ?_
      refine a_bipush dX9_gather_16 ⟨by decide, by decide, by decide⟩ ?_
      refine b_iaload (a := 124) (z := N 8) 8 dX9_gather_18 (by decide) rfl rfl (by decide) rfl (congrFun hN _) (fun r18_2 => ?_)
      refine a_if_ne (tgt := 25) dX9_gather_19 (by decide) (fun c19_3 => ?_) (fun c19_3 => ?_)
      · refine a_iconst dX9_gather_25 ⟨by decide, by decide⟩ ?_
        refine a_istore_n (lv' := [(2, vI (-1)), (0, vA 123), (1, vI q)]) dX9_gather_26 rfl (by decide) rfl ?_
        refine a_iconst dX9_gather_27 ⟨by decide, by decide⟩ ?_
        refine a_istore_n (lv' := [(3, vI 0), (2, vI (-1)), (0, vA 123), (1, vI q)]) dX9_gather_28 rfl (by decide) rfl ?_
        refine a_iconst dX9_gather_29 ⟨by decide, by decide⟩ ?_
        refine a_istore (lv' := [(4, vI 0), (3, vI 0), (2, vI (-1)), (0, vA 123), (1, vI q)]) dX9_gather_30 (by decide) rfl ?_
        exact a_lv (lv' := [(4, vI ((0 : Nat) : Int)), (2, vI (-1)), (3, vI 0), (0, vA 123), (1, vI q)]) (by intro q hq; simp only [List.mem_cons, List.not_mem_nil, or_false] at hq ⊢; rcases hq with rfl | rfl | rfl | rfl | rfl <;> simp) (l_gaR (h := h) (N := N) (n := n) (q := q) (by omega) hN hX hn (fun h' a b c => post_v (kQ h' a b c) (by unfold vGather; rw [if_pos hin, if_neg (by omega), show Int.toNat (N 8) = n by omega])) (n + 1) 0 h (-1) 0 (by omega) (by omega) Fr_r K3_r hC rfl)
      · refine a_ldc (z := (-1000000005)) dX9_gather_22 kwX9_115 ⟨by decide, by decide, by decide⟩ ?_
        exact a_iret dX9_gather_24 rfl (post_v (kQ h Fr_r K3_r hC) (by unfold vGather; rw [if_pos hin, if_pos (by omega)]))
    · have t3_1 : ¬ (0 ≤ q ∧ q ≤ 1) := t3_1
      show Aj γ mX9_gather d 0 0 Post 6 [(0, vA 123), (1, vI q)] [vI 0] (mk h τ)
      refine a_if_ne (tgt := 12) dX9_gather_6 (by decide) (fun c => absurd c (by decide)) (fun _ => ?_)
      refine a_ldc (z := (-1000000001)) dX9_gather_9 kwX9_146 ⟨by decide, by decide, by decide⟩ ?_
      exact a_iret dX9_gather_11 rfl (absurd hin (by omega))
  · refine c_of (by decide) (Nat.le_of_ble_eq_true rfl) ?_
    show Aj γ mX9_gather d 0 0 Post 0 [(0, vA 123), (1, vI q)] [] (mk h τ)
    refine a_iload_n (j := 1) dX9_gather_0 rfl rfl ?_
    refine a_iconst dX9_gather_1 ⟨by decide, by decide⟩ ?_
    refine a_iconst dX9_gather_2 ⟨by decide, by decide⟩ ?_
    refine a_callS (d' := d - 1) (mc' := 0) (ms' := 0) (mc1 := 0) (ms1 := 0) (st := []) [vI q, vI 0, vI 1] dX9_gather_3 mwX9_in lkX9_103 rfl (Nat.le_of_ble_eq_true rfl) (by omega) rfl rfl (c_X9_in  (by omega)    (fun t3_1 => ?_) (fun t3_1 => ?_))
    · have t3_1 : 0 ≤ q ∧ q ≤ 1 := t3_1
      show Aj γ mX9_gather d 0 0 Post 6 [(0, vA 123), (1, vI q)] [vI 1] (mk h τ)
      refine a_if_ne (tgt := 12) dX9_gather_6 (by decide) (fun _ => ?_) (fun c => absurd c (by decide))
      exact absurd (by omega) hin
    · have t3_1 : ¬ (0 ≤ q ∧ q ≤ 1) := t3_1
      show Aj γ mX9_gather d 0 0 Post 6 [(0, vA 123), (1, vI q)] [vI 0] (mk h τ)
      refine a_if_ne (tgt := 12) dX9_gather_6 (by decide) (fun c => absurd c (by decide)) (fun _ => ?_)
      refine a_ldc (z := (-1000000001)) dX9_gather_9 kwX9_146 ⟨by decide, by decide, by decide⟩ ?_
      exact a_iret dX9_gather_11 rfl (post_v (kQ h Fr_r K3_r hC) (by unfold vGather; rw [if_neg hin]))
