/-! ROWS THAT AGREE WHERE A ROW SAYS SOMETHING -/
def E5 (N N' : Nat → Int) : Prop := ∀ k, k < 1545 → N' k = N k
theorem E5_ln {N N' : Nat → Int} (h : txOK N) (e : E5 N N') {t : Nat} (ht : (t : Int) < N 6) : lnN N' t = lnN N t ∧ (∀ k, k < lnN N t → cdN N' t k = cdN N t k) ∧ lnN N t ≤ 96 ∧ t < 14 := by
  have h1 := h.1
  have h2 := (h.2.2 t ht).1
  have hl : lnN N t ≤ 96 := by unfold lnN; omega
  refine ⟨?_, fun k hk => ?_, hl, by omega⟩
  · unfold lnN; rw [e _ (by omega)]
  · exact e _ (by omega)
theorem NX_v {N N' : Nat → Int} (e : E5 N N') (h : NX N) : NX N' := by
  have hx := h.1.2.2.2
  obtain ⟨⟨⟨a1, a2, a3, a4, a5⟩, b, c, d1, d2, d3⟩, f, g, i, j⟩ := h
  refine ⟨⟨⟨?_, ?_, ?_, ?_, ?_⟩, ?_, ?_, ?_, ?_, ?_⟩, ?_, ?_, ?_, ?_⟩
  · rw [e 1 (by decide)]; exact a1
  · rw [e 2 (by decide)]; exact a2
  · rw [e 3 (by decide)]; exact a3
  · rw [e 4 (by decide)]; exact a4
  · rw [e 5 (by decide)]; exact a5
  · intro s hs; rw [e _ (by omega)]; exact b s hs
  · intro t ht
    rw [e 5 (by decide)] at ht
    have q1 := c t ht
    unfold trR
    rw [e 4 (by decide), e (15 + 11 * t) (by omega), e (16 + 11 * t) (by omega), e (17 + 11 * t) (by omega), e (18 + 11 * t) (by omega), e (19 + 11 * t) (by omega), e (20 + 11 * t) (by omega), e (21 + 11 * t) (by omega), e (22 + 11 * t) (by omega), e (22 + 11 * t + 1) (by omega), e (22 + 11 * t + 2) (by omega), e (22 + 11 * t + 3) (by omega)]
    exact q1
  · rw [e 6 (by decide)]; exact d1
  · intro t ht; rw [e _ (by omega)]; exact d2 t ht
  · intro t ht
    rw [e 6 (by decide)] at ht
    have q1 := d3 t ht
    obtain ⟨el, ec, hl, h14⟩ := E5_ln hx e ht
    rw [e (173 + 2 * t) (by omega), el]
    exact ⟨q1.1, wfC_cd ec q1.2.1, fun h1 k hk => by rw [ec k hk]; exact q1.2.2 h1 k hk⟩
  · rw [e 7 (by decide)]; exact f
  · intro k hk; rw [e 7 (by decide)] at hk; rw [e _ (by omega), e 5 (by decide)]; exact g k hk
  · rw [e 8 (by decide)]; exact i
  · intro k hk; rw [e 8 (by decide)] at hk; rw [e (153 + 2 * k) (by omega), e (153 + 2 * k + 1) (by omega), e 4 (by decide)]; exact j k hk
theorem tt_v {N N' : Nat → Int} (e : E5 N N') (h : NX N) : tt N' = tt N := VE_tt h.1 (fun k hk _ _ _ _ => (e k hk).symm)
theorem WR_v {h : Nat → Nat → Int} {τ : List AC} {w : Nat} {N N' : Nat → Int} (e : E5 N N') (hX : NX N) (hR : WR h τ w N) : WR h τ w N' := by
  have hx := hX.1.2.2.2
  have h4 := hX.1.1.2.2.2.1
  have h5 := hX.1.1.2.2.2.2
  have h7 := hX.2.1
  have h8 := hX.2.2.2.1
  obtain ⟨⟨a1, a2, a3, a4, a5, a6, a7, a8, a9⟩, b, c, f, g, i⟩ := hR
  refine ⟨⟨?_, ?_, ?_, ?_, ?_, ?_, ?_, ?_, ?_⟩, ?_, ?_, ?_, ?_, ?_⟩
  · rw [e 4 (by decide)]; exact a1
  · rw [e 5 (by decide)]; exact a2
  · rw [e 6 (by decide)]; exact a3
  · rw [e 7 (by decide)]; exact a4
  · rw [e 2 (by decide)]; exact a5
  · rw [e 3 (by decide)]; exact a6
  · rw [e 1 (by decide)]; exact a7
  · rw [e 8 (by decide)]; exact a8
  · rw [e 0 (by decide)]; exact a9
  · intro s hs; rw [e 4 (by decide)] at hs; rw [e _ (by omega)]; exact b s hs
  · intro t ht
    rw [e 5 (by decide)] at ht
    have q := c t ht
    unfold trW
    rw [e (15 + 11 * t) (by omega), e (16 + 11 * t) (by omega), e (17 + 11 * t) (by omega), e (18 + 11 * t) (by omega), e (19 + 11 * t) (by omega), e (20 + 11 * t) (by omega), e (21 + 11 * t) (by omega)]
    exact ⟨q.1, q.2.1, q.2.2.1, q.2.2.2.1, q.2.2.2.2.1, q.2.2.2.2.2.1, q.2.2.2.2.2.2.1, fun s hs => by rw [e _ (by omega)]; exact q.2.2.2.2.2.2.2 s hs⟩
  · intro t ht
    rw [e 6 (by decide)] at ht
    obtain ⟨q, q1, ft, q2, q3, q4, q5, cx, q6, q7, q8⟩ := f t ht
    obtain ⟨el, ec, hl, h14⟩ := E5_ln hx e ht
    refine ⟨q, q1, ft, q2, ?_, ?_, q5, cx, q6, ?_, ?_⟩
    · rw [e _ (by omega)]; exact q3
    · rw [e _ (by omega)]; exact q4
    · rw [el]; exact q7
    · rw [el]; intro k hk; rw [ec k hk]; exact q8 k hk
  · intro k hk; rw [e 7 (by decide)] at hk; rw [e _ (by omega)]; exact g k hk
  · intro k hk; rw [e 8 (by decide)] at hk; rw [e (153 + 2 * k) (by omega), e (153 + 2 * k + 1) (by omega)]; exact i k hk
theorem WR_g {h h' : Nat → Nat → Int} {τ : List AC} {w : Nat} {N : Nat → Int} (hw : isWd w) (h5 : N 5 ≤ 12) (e : ∀ c, w ≤ c → c < w + 31 → h' c = h c) (hR : WR h τ w N) : WR h' τ w N := by
  obtain ⟨a, b, c, f, g, i⟩ := hR
  refine ⟨?_, ?_, ?_, ?_, ?_, ?_⟩
  · unfold scR; rw [e w (by omega) (by omega)]; exact a
  · rw [e (w + 1) (by omega) (by omega)]; exact b
  · intro t ht; exact trW_fr (e _ (by omega) (by omega)) (e _ (by omega) (by omega)) (c t ht)
  · exact txR_fr (e (w + 3) (by omega) (by omega)) f
  · rw [e (w + 4) (by omega) (by omega)]; exact g
  · rw [e (w + 5) (by omega) (by omega), e (w + 6) (by omega) (by omega)]; exact i
theorem CC_g {h h' : Nat → Nat → Int} {N J : Nat → Int} (e2 : h' 0 2 = h 0 2) (e3 : h' 0 3 = h 0 3) (e1 : h' 1 0 = h 1 0) (e32 : h' 32 0 = h 32 0) (e : ∀ c, c ∈ [63, 64, 65, 66, 67, 68, 69, 70, 71, 72, 73, 74, 78, 79, 80, 81, 82, 83] → h' c = h c) (hC : CC h N J) : CC h' N J := by
  have T1 : ∀ T, TT h T → TT h' T := fun T t => by
    unfold TT TTm
    rw [e 63 (by decide), e 64 (by decide), e 65 (by decide), e 66 (by decide), e 67 (by decide), e 68 (by decide), e 69 (by decide), e 70 (by decide), e 71 (by decide), e 72 (by decide), e 73 (by decide), e 74 (by decide)]
    exact t
  unfold CC CCt CCs CCr at hC ⊢
  rw [e2, e3, e1, e32, e 63 (by decide), e 78 (by decide), e 80 (by decide), e 82 (by decide)]
  obtain ⟨⟨a1, a2, a3, a4⟩, b, c⟩ := hC
  exact ⟨⟨fun q => T1 _ (a1 q), fun q => CHp_fr (e 79 (by decide)) (a2 q), fun q => CHp_fr (e 81 (by decide)) (a3 q), fun q => CHp_fr (e 83 (by decide)) (a4 q)⟩, fun k => by
    obtain ⟨b1, b2, b3, b4⟩ := b k
    exact ⟨fun q => T1 _ (b1 q), fun q => CHp_fr (e 79 (by decide)) (b2 q), fun q => CHp_fr (e 81 (by decide)) (b3 q), fun q => CHp_fr (e 83 (by decide)) (b4 q)⟩, c⟩
theorem ckF_ext {T : Nat → Nat → Int} {J J' wr : Nat → Int} {G : Nat} {told : Int} (hG : 0 < G ∧ G ≤ 10) (e : ∀ k, 153 ≤ k → k < 173 → J' k = J k) : ∀ (f k : Nat) (z : Int), ckF T J' wr G told f k z = ckF T J wr G told f k z
  | 0, _, _ => rfl
  | f + 1, k, z => by
    have hm := Nat.mod_lt k hG.1
    have er : ckR T J' G k z = ckR T J G k z := by
      unfold ckR; rw [e (153 + 2 * (k % G)) (by omega) (by omega), e (153 + 2 * (k % G) + 1) (by omega) (by omega)]
    show (if ¬ (2 * (k : Int) < told ∧ wr (2 * k) = (ckR T J' G k z).1) then 2 * (k : Int) else if ¬ (2 * (k : Int) + 1 < told ∧ wr (2 * k + 1) = (ckR T J' G k z).2.1) then 2 * (k : Int) + 1 else ckF T J' wr G told f (k + 1) (ckR T J' G k z).2.2) = _
    rw [er, ckF_ext hG e f]
    rfl
def vCheck (kp : Int) (J wr : Nat → Int) (told n : Int) : Int := if 1 ≤ n ∧ n ≤ 30 then (if kp = 0 ∨ J 8 = 0 then -1000000002 else if ckF (tt J) J wr (Int.toNat (J 8)) told (Int.toNat n) 0 (J 0) = told ∧ ckF (tt J) J wr (Int.toNat (J 8)) told (Int.toNat n) 0 (J 0) = 2 * n then 0 else 1 + ckF (tt J) J wr (Int.toNat (J 8)) told (Int.toNat n) 0 (J 0)) else -1000000001
theorem ckF_rng {T : Nat → Nat → Int} {J wr : Nat → Int} {G : Nat} {told : Int} : ∀ (f k : Nat) (z : Int), 0 ≤ ckF T J wr G told f k z ∧ ckF T J wr G told f k z ≤ 2 * ((k : Int) + f)
  | 0, k, z => by show 0 ≤ 2 * (k : Int) ∧ 2 * (k : Int) ≤ _; omega
  | f + 1, k, z => by
    show 0 ≤ (if ¬ (2 * (k : Int) < told ∧ wr (2 * k) = (ckR T J G k z).1) then 2 * (k : Int) else if ¬ (2 * (k : Int) + 1 < told ∧ wr (2 * k + 1) = (ckR T J G k z).2.1) then 2 * (k : Int) + 1 else ckF T J wr G told f (k + 1) (ckR T J G k z).2.2) ∧ (if ¬ (2 * (k : Int) < told ∧ wr (2 * k) = (ckR T J G k z).1) then 2 * (k : Int) else if ¬ (2 * (k : Int) + 1 < told ∧ wr (2 * k + 1) = (ckR T J G k z).2.1) then 2 * (k : Int) + 1 else ckF T J wr G told f (k + 1) (ckR T J G k z).2.2) ≤ _
    have ih := ckF_rng (T := T) (J := J) (wr := wr) (G := G) (told := told) f (k + 1) (ckR T J G k z).2.2
    split
    · omega
    · split <;> omega
theorem Fr_x {h h7 h8 : Nat → Nat → Int} {τ : List AC} {J : Nat → Int} (hF7 : Fr [63, 64, 65, 66, 67, 68, 69, 70, 71, 72, 73, 74, 75, 76, 77, 78, 79, 80, 81, 82, 83] (up2 h 0 12 0) h7) (hF8 : Fr [0, 32, 78] h7 h8) (b8 : ∀ k, k ≠ 15 → h8 32 k = h7 32 k) {z8 : Int} (d8 : h8 32 15 = z8) (hR7 : WR h7 τ 32 J) : Fr [0, 63, 64, 65, 66, 67, 68, 69, 70, 71, 72, 73, 74, 75, 76, 77, 78, 79, 80, 81, 82, 83] h (up2 h8 32 15 (J 0)) := by
  intro c hc
  by_cases e : c = 32
  · subst e
    funext k
    have e7 : h7 32 k = h 32 k := (Fr_v hF7 (by decide)).trans (up2_ne (by omega))
    by_cases ek : k = 15
    · subst ek; rw [up2_at, ← e7]; exact hR7.1.2.2.2.2.2.2.2.2.symm
    · rw [up2_ne (by omega), b8 k ek, e7]
  · have h0 : c ≠ 0 := fun q => hc (by rw [q]; decide)
    have h78 : c ≠ 78 := fun q => hc (by rw [q]; decide)
    rw [up2_row e, hF8 c (by simp only [List.mem_cons, List.not_mem_nil, or_false]; omega), hF7 c (fun q => hc (List.mem_cons_of_mem _ q)), up2_row h0]
theorem CC_y {h h' : Nat → Nat → Int} {N J : Nat → Int} {v : Int} (hF : Fr [0, 32, 78] h h') (h0 : ∀ k, k ≠ 8 → h' 0 k = h 0 k) (h32 : ∀ k, k ≠ 15 → h' 32 k = h 32 k) (h8 : ∀ k, k ≠ 3 → h' 78 k = h 78 k) (hC : CC h N J) : CC (up2 h' 32 15 v) N J := by
  have e : ∀ c, c ∈ [63, 64, 65, 66, 67, 68, 69, 70, 71, 72, 73, 74, 79, 80, 81, 82, 83] → up2 h' 32 15 v c = h c := fun c hc => (up2_row ((by decide : ∀ c, c ∈ [63, 64, 65, 66, 67, 68, 69, 70, 71, 72, 73, 74, 79, 80, 81, 82, 83] → c ≠ 32) c hc)).trans (hF c ((by decide : ∀ c, c ∈ [63, 64, 65, 66, 67, 68, 69, 70, 71, 72, 73, 74, 79, 80, 81, 82, 83] → c ∉ [0, 32, 78]) c hc))
  have T1 : ∀ T, TT h T → TT (up2 h' 32 15 v) T := fun T t => by
    unfold TT TTm
    rw [e 63 (by decide), e 64 (by decide), e 65 (by decide), e 66 (by decide), e 67 (by decide), e 68 (by decide), e 69 (by decide), e 70 (by decide), e 71 (by decide), e 72 (by decide), e 73 (by decide), e 74 (by decide)]
    exact t
  have q2 : up2 h' 32 15 v 0 2 = h 0 2 := (up2_ne (by decide)).trans (h0 2 (by decide))
  have q3 : up2 h' 32 15 v 0 3 = h 0 3 := (up2_ne (by decide)).trans (h0 3 (by decide))
  have q1 : up2 h' 32 15 v 1 0 = h 1 0 := (up2_ne (by decide)).trans (Fr_v hF (by decide))
  have q32 : up2 h' 32 15 v 32 0 = h 32 0 := (up2_ne (by decide)).trans (h32 0 (by decide))
  have q80 : up2 h' 32 15 v 78 0 = h 78 0 := (up2_ne (by decide)).trans (h8 0 (by decide))
  have q82 : up2 h' 32 15 v 78 2 = h 78 2 := (up2_ne (by decide)).trans (h8 2 (by decide))
  unfold CC CCt CCs CCr at hC ⊢
  rw [q2, q3, q1, q32, q80, q82, e 63 (by decide), e 80 (by decide), e 82 (by decide)]
  obtain ⟨⟨a1, a2, a3, a4⟩, b, c⟩ := hC
  exact ⟨⟨fun q => T1 _ (a1 q), fun q => CHp_fr (e 79 (by decide)) (a2 q), fun q => CHp_fr (e 81 (by decide)) (a3 q), fun q => CHp_fr (e 83 (by decide)) (a4 q)⟩, fun k => by
    obtain ⟨b1, b2, b3, b4⟩ := b k
    exact ⟨fun q => T1 _ (b1 q), fun q => CHp_fr (e 79 (by decide)) (b2 q), fun q => CHp_fr (e 81 (by decide)) (b3 q), fun q => CHp_fr (e 83 (by decide)) (b4 q)⟩, c⟩
set_option maxHeartbeats 8000000 in
theorem q_X8_check {γ : GT} {d : Nat} {n kp told : Int} {N J wr : Nat → Int} {h : Nat → Nat → Int} {τ : List AC} {Post : Option AV → List AC → Prop} (hd : 14 ≤ d) (hkp : h 0 2 = kp) (hk01 : kp = 0 ∨ kp = 1) (hKR : kp = 1 → NX J ∧ WR h τ 32 J) (hC : CC h N J) (ht : h 0 12 = told) (htold : 0 ≤ told ∧ told ≤ 60) (hwr : h 89 = wr) (kQ : ∀ h', Fr [0, 63, 64, 65, 66, 67, 68, 69, 70, 71, 72, 73, 74, 75, 76, 77, 78, 79, 80, 81, 82, 83] h h' → (∀ k, k ≠ 8 → k ≠ 12 → h' 0 k = h 0 k) → h' 0 12 = 0 → CC h' N J → Post (some (vI (vCheck kp J wr told n))) (mk h' τ)) : Cj γ mX8_check d 0 0 [vA 0, vI n] (mk h τ) Post := by
  by_cases hin : 1 ≤ n ∧ n ≤ 30
  · by_cases hno : kp = 0 ∨ J 8 = 0
    · obtain ⟨g12, hg12⟩ : ∃ g, h 32 12 = g := ⟨_, rfl⟩
      have hgj : kp = 1 → g12 = J 8 := fun q => hg12.symm.trans (hKR q).2.1.2.2.2.2.2.2.2.1
      refine c_of (by decide) (Nat.le_of_ble_eq_true rfl) ?_
      show Aj γ mX8_check d 0 0 Post 0 [(0, vA 0), (1, vI n)] [] (mk h τ)
      refine a_aload_n (j := 0) dX8_check_0 rfl rfl (Nat.le_of_ble_eq_true rfl) ?_
      refine b_get (a := 0) (z := told) (t := 0) dX8_check_1 fwX8_322 (by decide) rfl (by decide) rfl rfl ht ?_
      refine a_istore_n (lv' := [(2, vI told), (0, vA 0), (1, vI n)]) dX8_check_4 rfl (by decide) rfl ?_
      refine a_aload_n (j := 1) dX8_check_5 rfl rfl (Nat.le_of_ble_eq_true rfl) ?_
      refine a_iconst dX8_check_6 ⟨by decide, by decide⟩ ?_
      refine b_put (a := 0) (v := vI 0) dX8_check_7 pwX8_322 (fun h => nomatch h) (by decide) rfl (by decide) rfl rfl (fit_int _) ?_
      show Aj γ mX8_check d 0 0 Post 10 [(2, vI told), (0, vA 0), (1, vI n)] [] (mk (up2 h 0 12 0) τ)
      refine a_iload_n (j := 2) dX8_check_10 rfl rfl ?_
      refine a_iconst dX8_check_11 ⟨by decide, by decide⟩ ?_
      refine a_bipush dX8_check_12 ⟨by decide, by decide, by decide⟩ ?_
      refine a_callS (d' := d - 1) (mc' := 0) (ms' := 0) (mc1 := 0) (ms1 := 0) (st := []) [vI n, vI 1, vI 30] dX8_check_14 mwX8_within lkX8_68 rfl (Nat.le_of_ble_eq_true rfl) (by omega) rfl rfl (c_X8_within  (by omega)    (fun t14_1 => ?_) (fun t14_1 => ?_))
      · have t14_1 : 1 ≤ n ∧ n ≤ 30 := t14_1
        show Aj γ mX8_check d 0 0 Post 17 [(2, vI told), (0, vA 0), (1, vI n)] [vI 1] (mk (up2 h 0 12 0) τ)
        refine a_if_ne (tgt := 23) dX8_check_17 (by decide) (fun _ => ?_) (fun c => absurd c (by decide))
        refine a_aload_n (j := 1) dX8_check_23 rfl rfl (Nat.le_of_ble_eq_true rfl) ?_
        refine b_get (a := 0) (z := kp) (t := 0) dX8_check_24 fwX8_325 (by decide) rfl (by decide) rfl rfl ((up2_ne (by omega)).trans hkp) ?_
        refine a_if_eq (tgt := 40) dX8_check_27 (by decide) (fun c27_2 => ?_) (fun c27_2 => ?_)
        · refine a_ldc (z := (-1000000002)) dX8_check_40 kwX8_176 ⟨by decide, by decide, by decide⟩ ?_
          exact a_iret dX8_check_42 rfl (post_v (kQ (up2 h 0 12 0) (Fr_u (by decide) Fr_r) (fun k a b => up2_ne (by omega)) up2_at (CC_g (up2_ne (by decide)) (up2_ne (by decide)) (up2_ne (by decide)) (up2_ne (by decide)) (fun c hc => up2_row ((by decide : ∀ c, c ∈ [63, 64, 65, 66, 67, 68, 69, 70, 71, 72, 73, 74, 78, 79, 80, 81, 82, 83] → c ≠ 0) c hc)) hC)) (by unfold vCheck; rw [if_pos (by omega), if_pos (by omega)]))
        · refine a_aload_n (j := 1) dX8_check_30 rfl rfl (Nat.le_of_ble_eq_true rfl) ?_
          refine b_getp (a := 0) (p := 32) dX8_check_31 fwX8_18 (by decide) rfl (by decide) rfl rfl ?_
          refine b_get (a := 32) (z := g12) (t := 0) dX8_check_34 fwX8_250 (by decide) rfl (by decide) rfl rfl ((up2_ne (by omega)).trans hg12) ?_
          refine a_if_ne (tgt := 43) dX8_check_37 (by decide) (fun c37_3 => ?_) (fun c37_3 => ?_)
          · exfalso
            omega
          · refine a_ldc (z := (-1000000002)) dX8_check_40 kwX8_176 ⟨by decide, by decide, by decide⟩ ?_
            exact a_iret dX8_check_42 rfl (post_v (kQ (up2 h 0 12 0) (Fr_u (by decide) Fr_r) (fun k a b => up2_ne (by omega)) up2_at (CC_g (up2_ne (by decide)) (up2_ne (by decide)) (up2_ne (by decide)) (up2_ne (by decide)) (fun c hc => up2_row ((by decide : ∀ c, c ∈ [63, 64, 65, 66, 67, 68, 69, 70, 71, 72, 73, 74, 78, 79, 80, 81, 82, 83] → c ≠ 0) c hc)) hC)) (by unfold vCheck; rw [if_pos (by omega), if_pos (by omega)]))
      · have t14_1 : ¬ (1 ≤ n ∧ n ≤ 30) := t14_1
        show Aj γ mX8_check d 0 0 Post 17 [(2, vI told), (0, vA 0), (1, vI n)] [vI 0] (mk (up2 h 0 12 0) τ)
        refine a_if_ne (tgt := 23) dX8_check_17 (by decide) (fun c => absurd c (by decide)) (fun _ => ?_)
        refine a_ldc (z := (-1000000001)) dX8_check_20 kwX8_72 ⟨by decide, by decide, by decide⟩ ?_
        exact a_iret dX8_check_22 rfl (by exfalso; omega)
    · have hk1 : h 0 2 = 1 := by omega
      obtain ⟨hXJ, hRJ⟩ := hKR (by omega)
      have h5J := hXJ.1.1.2.2.2.2
      have h8J := hXJ.2.2.2.1
      obtain ⟨nn, rfl⟩ : ∃ nn : Nat, n = (nn : Int) := ⟨Int.toNat n, by omega⟩
      obtain ⟨G, hG⟩ : ∃ G : Nat, J 8 = (G : Int) := ⟨Int.toNat (J 8), by omega⟩
      have hGe : Int.toNat (J 8) = G := by omega
      obtain ⟨T, hTe⟩ : ∃ T, tt J = T := ⟨_, rfl⟩
      have hT : tOK T := hTe ▸ tt_OK hXJ.1
      have hNT : NTr J T := hTe ▸ NT_tt hXJ.1
      have hckr := ckF_rng (T := T) (J := J) (wr := wr) (G := G) (told := told) nn 0 (J 0)
      refine c_of (by decide) (Nat.le_of_ble_eq_true rfl) ?_
      show Aj γ mX8_check d 0 0 Post 0 [(0, vA 0), (1, vI ((nn : Nat) : Int))] [] (mk h τ)
      refine a_aload_n (j := 0) dX8_check_0 rfl rfl (Nat.le_of_ble_eq_true rfl) ?_
      refine b_get (a := 0) (z := told) (t := 0) dX8_check_1 fwX8_322 (by decide) rfl (by decide) rfl rfl ht ?_
      refine a_istore_n (lv' := [(2, vI told), (0, vA 0), (1, vI ((nn : Nat) : Int))]) dX8_check_4 rfl (by decide) rfl ?_
      refine a_aload_n (j := 1) dX8_check_5 rfl rfl (Nat.le_of_ble_eq_true rfl) ?_
      refine a_iconst dX8_check_6 ⟨by decide, by decide⟩ ?_
      refine b_put (a := 0) (v := vI 0) dX8_check_7 pwX8_322 (fun h => nomatch h) (by decide) rfl (by decide) rfl rfl (fit_int _) ?_
      show Aj γ mX8_check d 0 0 Post 10 [(2, vI told), (0, vA 0), (1, vI ((nn : Nat) : Int))] [] (mk (up2 h 0 12 0) τ)
      refine a_iload_n (j := 2) dX8_check_10 rfl rfl ?_
      refine a_iconst dX8_check_11 ⟨by decide, by decide⟩ ?_
      refine a_bipush dX8_check_12 ⟨by decide, by decide, by decide⟩ ?_
      refine a_callS (d' := d - 1) (mc' := 0) (ms' := 0) (mc1 := 0) (ms1 := 0) (st := []) [vI ((nn : Nat) : Int), vI 1, vI 30] dX8_check_14 mwX8_within lkX8_68 rfl (Nat.le_of_ble_eq_true rfl) (by omega) rfl rfl (c_X8_within  (by omega)    (fun t14_1 => ?_) (fun t14_1 => ?_))
      · have t14_1 : 1 ≤ ((nn : Nat) : Int) ∧ ((nn : Nat) : Int) ≤ 30 := t14_1
        show Aj γ mX8_check d 0 0 Post 17 [(2, vI told), (0, vA 0), (1, vI ((nn : Nat) : Int))] [vI 1] (mk (up2 h 0 12 0) τ)
        refine a_if_ne (tgt := 23) dX8_check_17 (by decide) (fun _ => ?_) (fun c => absurd c (by decide))
        refine a_aload_n (j := 1) dX8_check_23 rfl rfl (Nat.le_of_ble_eq_true rfl) ?_
        refine b_get (a := 0) (z := kp) (t := 0) dX8_check_24 fwX8_325 (by decide) rfl (by decide) rfl rfl ((up2_ne (by omega)).trans hkp) ?_
        refine a_if_eq (tgt := 40) dX8_check_27 (by decide) (fun c27_2 => ?_) (fun c27_2 => ?_)
        · refine a_ldc (z := (-1000000002)) dX8_check_40 kwX8_176 ⟨by decide, by decide, by decide⟩ ?_
          exact a_iret dX8_check_42 rfl (by exfalso; omega)
        · refine a_aload_n (j := 1) dX8_check_30 rfl rfl (Nat.le_of_ble_eq_true rfl) ?_
          refine b_getp (a := 0) (p := 32) dX8_check_31 fwX8_18 (by decide) rfl (by decide) rfl rfl ?_
          refine b_get (a := 32) (z := ((G : Nat) : Int)) (t := 0) dX8_check_34 fwX8_250 (by decide) rfl (by decide) rfl rfl ((up2_ne (by omega)).trans (hRJ.1.2.2.2.2.2.2.2.1.trans hG)) ?_
          refine a_if_ne (tgt := 43) dX8_check_37 (by decide) (fun c37_3 => ?_) (fun c37_3 => ?_)
          · refine a_aload_n (j := 1) dX8_check_43 rfl rfl (Nat.le_of_ble_eq_true rfl) ?_
            refine b_getp (a := 0) (p := 78) dX8_check_44 fwX8_33 (by decide) rfl (by decide) rfl rfl ?_
            refine a_aload_n (j := 1) dX8_check_47 rfl rfl (Nat.le_of_ble_eq_true rfl) ?_
            refine b_getp (a := 0) (p := 63) dX8_check_48 fwX8_24 (by decide) rfl (by decide) rfl rfl ?_
            refine a_aload_n (j := 1) dX8_check_51 rfl rfl (Nat.le_of_ble_eq_true rfl) ?_
            refine b_getp (a := 0) (p := 32) dX8_check_52 fwX8_18 (by decide) rfl (by decide) rfl rfl ?_
            have hCH : CC (up2 h 0 12 0) N J := CC_g (up2_ne (by decide)) (up2_ne (by decide)) (up2_ne (by decide)) (up2_ne (by decide)) (fun c hc => up2_row ((by decide : ∀ c, c ∈ [63, 64, 65, 66, 67, 68, 69, 70, 71, 72, 73, 74, 78, 79, 80, 81, 82, 83] → c ≠ 0) c hc)) hC
            have hRH : WR (up2 h 0 12 0) τ 32 J := WR_g (Or.inr rfl) (by omega) (fun c h1 h2 => up2_row (by omega)) hRJ
            refine b_callV (d' := d - 1) (mc' := 0) (ms' := 0) (mc1 := 0) (ms1 := 0) (st := []) (b := 78) [vA 63, vA 32] dX8_check_55 mwX0_drawnFor lkX8_207 (by decide) rfl rc_X0 rfl (Nat.le_of_ble_eq_true rfl) (by omega) rfl rfl (k_drawnK (N := N) (J := J) (by omega) ((up2_ne (by decide)).trans hk1) hRH hXJ.1 hCH (fun h7 hF7 c7 t7 g7 => ?_))
            rw [hTe] at t7 g7
            show Aj γ mX8_check d 0 0 Post 58 [(2, vI told), (0, vA 0), (1, vI ((nn : Nat) : Int))] [vA 78] (mk h7 τ)
            refine a_pop dX8_check_58 (fun h => nomatch h) ?_
            refine a_aload_n (j := 1) dX8_check_59 rfl rfl (Nat.le_of_ble_eq_true rfl) ?_
            refine b_getp (a := 0) (p := 32) dX8_check_60 fwX8_18 (by decide) rfl (by decide) rfl rfl ?_
            refine b_get (a := 32) (z := J 0) (t := 0) dX8_check_63 fwX8_263 (by decide) rfl (by decide) rfl rfl ((Fr_v hF7 (by decide)).trans ((up2_ne (by decide)).trans hRJ.1.2.2.2.2.2.2.2.2)) ?_
            refine a_istore_n (lv' := [(3, vI (J 0)), (2, vI told), (0, vA 0), (1, vI ((nn : Nat) : Int))]) dX8_check_66 rfl (by decide) rfl ?_
            refine a_aload_n (j := 2) dX8_check_67 rfl rfl (Nat.le_of_ble_eq_true rfl) ?_
            refine a_iload_n (j := 3) dX8_check_68 rfl rfl ?_
            refine a_iload_n (j := 1) dX8_check_69 rfl rfl ?_
            have hR7 : WR h7 τ 32 J := WR_c (Or.inr rfl) hF7 hXJ hRH
            refine b_callV (d' := d - 1) (mc' := 0) (ms' := 0) (mc1 := 0) (ms1 := 0) (st := []) (b := 0) [vI ((nn : Nat) : Int), vI told] dX8_check_70 mwX8_rightAhead lkX8_329 (by decide) rfl rc_X8 rfl (Nat.le_of_ble_eq_true rfl) (by omega) rfl rfl (c_X8_rightAhead (T := T) (J := J) (wr := wr) (G := G) (n := nn) (told := told) (z := J 0) (by omega) hT t7 c7.2.2.1.1.1 g7 (hR7.1.2.2.2.2.1.trans hNT.1.1) hR7 hXJ hG (by omega) (by omega) htold ((hF7 89 (by decide)).trans ((up2_row (by decide)).trans hwr)) hR7.1.2.2.2.2.2.2.2.2 (fun h8 z8 hF8 a8 b8 d8 e8 => ?_))
            show Aj γ mX8_check d 0 0 Post 73 [(3, vI (J 0)), (2, vI told), (0, vA 0), (1, vI ((nn : Nat) : Int))] [vI (ckF T J wr G told nn 0 (J 0))] (mk h8 τ)
            refine a_istore (lv' := [(4, vI (ckF T J wr G told nn 0 (J 0))), (3, vI (J 0)), (2, vI told), (0, vA 0), (1, vI ((nn : Nat) : Int))]) dX8_check_73 (by decide) rfl ?_
            refine a_aload_n (j := 3) dX8_check_75 rfl rfl (Nat.le_of_ble_eq_true rfl) ?_
            refine b_getp (a := 0) (p := 32) dX8_check_76 fwX8_18 (by decide) rfl (by decide) rfl rfl ?_
            refine a_iload_n (j := 1) dX8_check_79 rfl rfl ?_
            refine b_put (a := 32) (v := vI (J 0)) dX8_check_80 pwX8_263 (fun h => nomatch h) (by decide) rfl (by decide) rfl rfl (fit_int _) ?_
            show Aj γ mX8_check d 0 0 Post 83 [(4, vI (ckF T J wr G told nn 0 (J 0))), (3, vI (J 0)), (2, vI told), (0, vA 0), (1, vI ((nn : Nat) : Int))] [] (mk (up2 h8 32 15 (J 0)) τ)
            refine a_iload (j := 0) dX8_check_83 rfl ?_
            refine a_iload_n (j := 2) dX8_check_85 rfl rfl ?_
            refine a_icmp_ne (tgt := 101) dX8_check_86 (by decide) (fun c86_4 => ?_) (fun c86_4 => ?_)
            · refine a_iconst dX8_check_101 ⟨by decide, by decide⟩ ?_
              refine a_iload (j := 0) dX8_check_102 rfl ?_
              refine a_iadd (z := (1 + (ckF T J wr G told nn 0 (J 0)))) dX8_check_104 (w_ok (by omega) (by omega)) ?_
              exact a_iret dX8_check_105 rfl (post_v (kQ _ (Fr_x hF7 hF8 b8 d8 hR7) (fun k a b => (up2_ne (by omega)).trans ((a8 k a).trans ((Fr_v hF7 (by decide)).trans (up2_ne (by omega))))) ((up2_ne (by omega)).trans ((a8 12 (by decide)).trans ((Fr_v hF7 (by decide)).trans up2_at))) (CC_y hF8 a8 b8 e8 c7)) (by unfold vCheck; rw [if_pos (by omega), if_neg (by omega), hTe, hGe, Int.toNat_natCast]; rw [if_neg (by omega)]))
            · refine a_iload (j := 0) dX8_check_89 rfl ?_
              refine a_iconst dX8_check_91 ⟨by decide, by decide⟩ ?_
              refine a_iload_n (j := 4) dX8_check_92 rfl rfl ?_
              refine a_imul (z := (2 * ((nn : Nat) : Int))) dX8_check_93 (w_ok (by omega) (by omega)) ?_
              refine a_icmp_ne (tgt := 101) dX8_check_94 (by decide) (fun c94_5 => ?_) (fun c94_5 => ?_)
              · refine a_iconst dX8_check_101 ⟨by decide, by decide⟩ ?_
                refine a_iload (j := 0) dX8_check_102 rfl ?_
                refine a_iadd (z := (1 + (ckF T J wr G told nn 0 (J 0)))) dX8_check_104 (w_ok (by omega) (by omega)) ?_
                exact a_iret dX8_check_105 rfl (post_v (kQ _ (Fr_x hF7 hF8 b8 d8 hR7) (fun k a b => (up2_ne (by omega)).trans ((a8 k a).trans ((Fr_v hF7 (by decide)).trans (up2_ne (by omega))))) ((up2_ne (by omega)).trans ((a8 12 (by decide)).trans ((Fr_v hF7 (by decide)).trans up2_at))) (CC_y hF8 a8 b8 e8 c7)) (by unfold vCheck; rw [if_pos (by omega), if_neg (by omega), hTe, hGe, Int.toNat_natCast]; rw [if_neg (by omega)]))
              · refine a_iconst dX8_check_97 ⟨by decide, by decide⟩ ?_
                refine a_goto (tgt := 105) dX8_check_98 (by decide) ?_
                exact a_iret dX8_check_105 rfl (post_v (kQ _ (Fr_x hF7 hF8 b8 d8 hR7) (fun k a b => (up2_ne (by omega)).trans ((a8 k a).trans ((Fr_v hF7 (by decide)).trans (up2_ne (by omega))))) ((up2_ne (by omega)).trans ((a8 12 (by decide)).trans ((Fr_v hF7 (by decide)).trans up2_at))) (CC_y hF8 a8 b8 e8 c7)) (by unfold vCheck; rw [if_pos (by omega), if_neg (by omega), hTe, hGe, Int.toNat_natCast]; rw [if_pos (by omega)]))
          · refine a_ldc (z := (-1000000002)) dX8_check_40 kwX8_176 ⟨by decide, by decide, by decide⟩ ?_
            exact a_iret dX8_check_42 rfl (by exfalso; omega)
      · have t14_1 : ¬ (1 ≤ ((nn : Nat) : Int) ∧ ((nn : Nat) : Int) ≤ 30) := t14_1
        show Aj γ mX8_check d 0 0 Post 17 [(2, vI told), (0, vA 0), (1, vI ((nn : Nat) : Int))] [vI 0] (mk (up2 h 0 12 0) τ)
        refine a_if_ne (tgt := 23) dX8_check_17 (by decide) (fun c => absurd c (by decide)) (fun _ => ?_)
        refine a_ldc (z := (-1000000001)) dX8_check_20 kwX8_72 ⟨by decide, by decide, by decide⟩ ?_
        exact a_iret dX8_check_22 rfl (by exfalso; omega)
  · refine c_of (by decide) (Nat.le_of_ble_eq_true rfl) ?_
    show Aj γ mX8_check d 0 0 Post 0 [(0, vA 0), (1, vI n)] [] (mk h τ)
    refine a_aload_n (j := 0) dX8_check_0 rfl rfl (Nat.le_of_ble_eq_true rfl) ?_
    refine b_get (a := 0) (z := told) (t := 0) dX8_check_1 fwX8_322 (by decide) rfl (by decide) rfl rfl ht ?_
    refine a_istore_n (lv' := [(2, vI told), (0, vA 0), (1, vI n)]) dX8_check_4 rfl (by decide) rfl ?_
    refine a_aload_n (j := 1) dX8_check_5 rfl rfl (Nat.le_of_ble_eq_true rfl) ?_
    refine a_iconst dX8_check_6 ⟨by decide, by decide⟩ ?_
    refine b_put (a := 0) (v := vI 0) dX8_check_7 pwX8_322 (fun h => nomatch h) (by decide) rfl (by decide) rfl rfl (fit_int _) ?_
    show Aj γ mX8_check d 0 0 Post 10 [(2, vI told), (0, vA 0), (1, vI n)] [] (mk (up2 h 0 12 0) τ)
    refine a_iload_n (j := 2) dX8_check_10 rfl rfl ?_
    refine a_iconst dX8_check_11 ⟨by decide, by decide⟩ ?_
    refine a_bipush dX8_check_12 ⟨by decide, by decide, by decide⟩ ?_
    refine a_callS (d' := d - 1) (mc' := 0) (ms' := 0) (mc1 := 0) (ms1 := 0) (st := []) [vI n, vI 1, vI 30] dX8_check_14 mwX8_within lkX8_68 rfl (Nat.le_of_ble_eq_true rfl) (by omega) rfl rfl (c_X8_within  (by omega)    (fun t14_1 => ?_) (fun t14_1 => ?_))
    · have t14_1 : 1 ≤ n ∧ n ≤ 30 := t14_1
      show Aj γ mX8_check d 0 0 Post 17 [(2, vI told), (0, vA 0), (1, vI n)] [vI 1] (mk (up2 h 0 12 0) τ)
      refine a_if_ne (tgt := 23) dX8_check_17 (by decide) (fun _ => ?_) (fun c => absurd c (by decide))
      exfalso
      omega
    · have t14_1 : ¬ (1 ≤ n ∧ n ≤ 30) := t14_1
      show Aj γ mX8_check d 0 0 Post 17 [(2, vI told), (0, vA 0), (1, vI n)] [vI 0] (mk (up2 h 0 12 0) τ)
      refine a_if_ne (tgt := 23) dX8_check_17 (by decide) (fun c => absurd c (by decide)) (fun _ => ?_)
      refine a_ldc (z := (-1000000001)) dX8_check_20 kwX8_72 ⟨by decide, by decide, by decide⟩ ?_
      exact a_iret dX8_check_22 rfl (post_v (kQ (up2 h 0 12 0) (Fr_u (by decide) Fr_r) (fun k a b => up2_ne (by omega)) up2_at (CC_g (up2_ne (by decide)) (up2_ne (by decide)) (up2_ne (by decide)) (up2_ne (by decide)) (fun c hc => up2_row ((by decide : ∀ c, c ∈ [63, 64, 65, 66, 67, 68, 69, 70, 71, 72, 73, 74, 78, 79, 80, 81, 82, 83] → c ≠ 0) c hc)) hC)) (by unfold vCheck; rw [if_neg (by omega)]))
