/-! PLANS -/
def plK (N : Nat → Int) (k : Nat) : Nat := Int.toNat (N (147 + k))
def bkP (N : Nat → Int) : Nat → Prop := fun k => ¬ N (17 + 11 * plK N (k - 1)) = N (16 + 11 * plK N k)
def wgT (T : Nat → Nat → Int) (a b : Nat) (W : Nat → Int) (r s : Nat) : Int := if msT T a s b r ≤ 0 then W s else 0
def wyS (T : Nat → Nat → Int) (a b : Nat) (W : Nat → Int) : Nat → Int := fun r => sm (wgT T a b W r) 4 * T 8 (4 * b + r)
def wyN (T : Nat → Nat → Int) (pl : Nat → Nat) : Nat → Nat → Int
  | 0 => fun s => T 8 (4 * pl 0 + s)
  | k + 1 => wyS T (pl k) (pl (k + 1)) (wyN T pl k)
def plV (T : Nat → Nat → Int) (pl : Nat → Nat) (n : Nat) (q : Int) : Int := if q = 1 then sm (fun s => wyN T pl (n - 1) s * (T 9 (4 * pl (n - 1) + s) + T 4 (pl (n - 1)))) 4 else sm (wyN T pl (n - 1)) 4
def fRT (T : Nat → Nat → Int) (a b : Nat) (W : Nat → Int) (r s : Nat) : Int := if msT T a s b r ≤ 0 then W s * T 8 (4 * b + r) else 0
theorem fRT_sm {T : Nat → Nat → Int} {a b : Nat} {W : Nat → Int} {r : Nat} : sm (fRT T a b W r) 4 = wyS T a b W r := by
  show _ = sm (wgT T a b W r) 4 * T 8 (4 * b + r)
  rw [← sm_mul]
  refine sm_ext (fun s _ => ?_)
  unfold fRT wgT
  by_cases c : msT T a s b r ≤ 0
  · rw [if_pos c, if_pos c]
  · rw [if_neg c, if_neg c, Int.zero_mul]
theorem wg_rng {T : Nat → Nat → Int} {a b r : Nat} {W : Nat → Int} {B : Int} (hW : ∀ s, s < 4 → 0 ≤ W s ∧ W s ≤ B) {s : Nat} (hs : s < 4) : 0 ≤ wgT T a b W r s ∧ wgT T a b W r s ≤ B := by
  have h1 := hW s hs
  unfold wgT
  split <;> omega
theorem wyS_rng {T : Nat → Nat → Int} (hT : tOK T) {a b : Nat} {W : Nat → Int} {B : Int} (hW : ∀ s, s < 4 → 0 ≤ W s ∧ W s ≤ B) : ∀ r, r < 4 → 0 ≤ wyS T a b W r ∧ wyS T a b W r ≤ 4 * B * 100 := fun r hr =>
  mul_rng (sm4_rng (f := wgT T a b W r) (B := B) (fun s hs => wg_rng hW hs) (Nat.le_refl 4)) ((hT.2.2.2.2.2 b).2.2.2.2.2.2.1 r hr).1
theorem fR_rng {T : Nat → Nat → Int} (hT : tOK T) {a b r : Nat} (hr : r < 4) {W : Nat → Int} {B : Int} (hW : ∀ s, s < 4 → 0 ≤ W s ∧ W s ≤ B) {s : Nat} (hs : s < 4) : 0 ≤ fRT T a b W r s ∧ fRT T a b W r s ≤ B * 100 := by
  have h1 := mul_rng (hW s hs) ((hT.2.2.2.2.2 b).2.2.2.2.2.2.1 r hr).1
  have h2 : 0 ≤ B * 100 := by have := hW s hs; omega
  unfold fRT
  split <;> omega
theorem wy_rng {T : Nat → Nat → Int} (hT : tOK T) {pl : Nat → Nat} : (∀ s, s < 4 → 0 ≤ wyN T pl 0 s ∧ wyN T pl 0 s ≤ 100) ∧ (∀ s, s < 4 → 0 ≤ wyN T pl 1 s ∧ wyN T pl 1 s ≤ 40000) ∧ (∀ s, s < 4 → 0 ≤ wyN T pl 2 s ∧ wyN T pl 2 s ≤ 16000000) ∧ (∀ s, s < 4 → 0 ≤ wyN T pl 3 s ∧ wyN T pl 3 s ≤ 6400000000) ∧ (∀ s, s < 4 → 0 ≤ wyN T pl 4 s ∧ wyN T pl 4 s ≤ 2560000000000) ∧ ∀ s, s < 4 → 0 ≤ wyN T pl 5 s ∧ wyN T pl 5 s ≤ 1024000000000000 := by
  have h0 : ∀ s, s < 4 → 0 ≤ wyN T pl 0 s ∧ wyN T pl 0 s ≤ 100 := fun s hs => ((hT.2.2.2.2.2 (pl 0)).2.2.2.2.2.2.1 s hs).1
  have h1 := wyS_rng hT (a := pl 0) (b := pl 1) h0
  have h2 := wyS_rng hT (a := pl 1) (b := pl 2) h1
  have h3 := wyS_rng hT (a := pl 2) (b := pl 3) h2
  have h4 := wyS_rng hT (a := pl 3) (b := pl 4) h3
  have h5 := wyS_rng hT (a := pl 4) (b := pl 5) h4
  exact ⟨h0, h1, h2, h3, h4, h5⟩
theorem wy_b4 {T : Nat → Nat → Int} (hT : tOK T) {pl : Nat → Nat} {k : Nat} (hk : k ≤ 4) : ∀ s, s < 4 → 0 ≤ wyN T pl k s ∧ wyN T pl k s ≤ 2560000000000 := by
  obtain ⟨h0, h1, h2, h3, h4, h5⟩ := wy_rng hT (pl := pl)
  intro s hs
  rcases (show k = 0 ∨ k = 1 ∨ k = 2 ∨ k = 3 ∨ k = 4 by omega) with rfl | rfl | rfl | rfl | rfl
  · have := h0 s hs; omega
  · have := h1 s hs; omega
  · have := h2 s hs; omega
  · have := h3 s hs; omega
  · have := h4 s hs; omega
theorem wy_b5 {T : Nat → Nat → Int} (hT : tOK T) {pl : Nat → Nat} {k : Nat} (hk : k ≤ 5) : ∀ s, s < 4 → 0 ≤ wyN T pl k s ∧ wyN T pl k s ≤ 1024000000000000 := by
  intro s hs
  by_cases c : k ≤ 4
  · have := wy_b4 hT (pl := pl) c s hs; omega
  · obtain rfl : k = 5 := by omega
    exact (wy_rng hT (pl := pl)).2.2.2.2.2 s hs
theorem post_l {Post : Option AV → List AC → Prop} {σ : List AC} {a b : Int} (h : Post (some (vL a)) σ) (e : a = b) : Post (some (vL b)) σ := e ▸ h
/-- the class's two rows of ways -/
def WYo (h : Nat → Nat → Int) : Prop := (h 63 17 = 76 ∧ h 63 18 = 77) ∨ (h 63 17 = 77 ∧ h 63 18 = 76)
def WY (h : Nat → Nat → Int) (W : Nat → Int) : Prop := (h 63 17 = 76 ∧ h 63 18 = 77 ∧ ∀ s, s < 4 → h 76 s = W s) ∨ (h 63 17 = 77 ∧ h 63 18 = 76 ∧ ∀ s, s < 4 → h 77 s = W s)
def K18 (h h' : Nat → Nat → Int) : Prop := ∀ k, k ≠ 17 → k ≠ 18 → h' 63 k = h 63 k
theorem TT_w {h h' T : Nat → Nat → Int} (hF : Fr [63, 76, 77] h h') (hk : K18 h h') (hTT : TT h T) : TT h' T := by
  have q : ∀ c, c ∉ [63, 76, 77] → h' c = h c := hF
  unfold TT TTm
  rw [hk 1 (by decide) (by decide), hk 2 (by decide) (by decide), hk 3 (by decide) (by decide), hk 13 (by decide) (by decide), q 64 (by decide), q 65 (by decide), q 66 (by decide), q 67 (by decide), q 68 (by decide), q 69 (by decide), q 70 (by decide), q 71 (by decide), q 72 (by decide), q 73 (by decide), q 74 (by decide)]
  exact hTT
set_option maxHeartbeats 8000000 in
theorem l_broken {γ : GT} {d : Nat} {N : Nat → Int} {n : Nat} {h : Nat → Nat → Int} {τ : List AC} {Post : Option AV → List AC → Prop} (hd : 0 ≤ d) (hR : WR h τ 1 N) (hX : NX N) (hn : N 7 = ((n : Nat) : Int)) (kQ : Post (some (vI (fndV (bkP N) 1 n))) (mk h τ)) :
    ∀ (f i : Nat) , i ≤ (n + 1) → (n + 1) < i + f → (fndV (bkP N) 1 n = fndV (bkP N) i n) → (1 ≤ i) → Aj γ mX7_brokenPlace d 0 0 Post 2 [(1, vI ((i : Nat) : Int)), (0, vA 1)] [] (mk h τ) := by
  intro f
  induction f with
  | zero => intro i  h1_ h2_; omega
  | succ f ih =>
    intro i  h1_ h2_ iv i1
    obtain ⟨pk, hpk⟩ : ∃ pk : Nat, pk = plK N i := ⟨_, rfl⟩
    obtain ⟨pj, hpj⟩ : ∃ pj : Nat, pj = plK N (i - 1) := ⟨_, rfl⟩
    have hX7 := hX.2.1
    have hX5 := hX.1.1.2.2.2.2
    refine a_iload_n (j := 0) dX7_brokenPlace_2 rfl rfl ?_
    refine a_aload_n (j := 1) dX7_brokenPlace_3 rfl rfl (Nat.le_of_ble_eq_true rfl) ?_
    refine b_get (a := 1) (z := ((n : Nat) : Int)) (t := 0) dX7_brokenPlace_4 fwX7_70 (by decide) rfl (by decide) rfl rfl (hR.1.2.2.2.1.trans hn) ?_
    refine a_icmp_ge (tgt := 51) dX7_brokenPlace_7 (by decide) (fun c7_1 => ?_) (fun c7_1 => ?_)
    · refine a_ldc (z := (-1000000005)) dX7_brokenPlace_51 kwX7_85 ⟨by decide, by decide, by decide⟩ ?_
      exact a_iret dX7_brokenPlace_53 rfl (post_v kQ (iv.trans (fnd_0 (by omega))))
    · have hx1 := hX.2.2.1 i (by omega)
      have hx2 := hX.2.2.1 (i - 1) (by omega)
      have hpk2 : N (147 + i) = ((pk : Nat) : Int) := by rw [hpk]; unfold plK; omega
      have hpj2 : N (147 + (i - 1)) = ((pj : Nat) : Int) := by rw [hpj]; unfold plK; omega
      refine a_aload_n (j := 1) dX7_brokenPlace_10 rfl rfl (Nat.le_of_ble_eq_true rfl) ?_
      refine b_getp (a := 1) (p := 3) dX7_brokenPlace_11 fwX7_17 (by decide) rfl (by decide) rfl rfl ?_
      refine a_aload_n (j := 1) dX7_brokenPlace_14 rfl rfl (Nat.le_of_ble_eq_true rfl) ?_
      refine b_getp (a := 1) (p := 5) dX7_brokenPlace_15 fwX7_27 (by decide) rfl (by decide) rfl rfl ?_
      refine a_iload_n (j := 0) dX7_brokenPlace_18 rfl rfl ?_
      refine b_iaload (a := 5) (z := ((pk : Nat) : Int)) i dX7_brokenPlace_19 (by decide) rfl rfl (by omega) (sp_nil rfl _) ((hR.2.2.2.2.1 i (by omega)).trans hpk2) (fun r19_2 => ?_)
      refine b_aaloadp (a := 3) (p := (8 + 2 * pk)) pk dX7_brokenPlace_20 (by decide) rfl qa_18 rfl (by omega) (tr_a (Or.inl rfl : isWd 1) (show pk < 12 by omega)) ?_
      refine b_get (a := (8 + 2 * pk)) (z := N (16 + 11 * pk)) (t := 0) dX7_brokenPlace_21 fwX7_90 (by have := (tr_w (Or.inl rfl : isWd 1) (show pk < 12 by omega)).1; omega) (tr_w (Or.inl rfl : isWd 1) (show pk < 12 by omega)).2.1 (by decide) (tr_s (tr_w (Or.inl rfl : isWd 1) (show pk < 12 by omega)) (by decide)) rfl (hR.2.2.1 pk (by omega)).2.1 ?_
      refine a_aload_n (j := 1) dX7_brokenPlace_24 rfl rfl (Nat.le_of_ble_eq_true rfl) ?_
      refine b_getp (a := 1) (p := 3) dX7_brokenPlace_25 fwX7_17 (by decide) rfl (by decide) rfl rfl ?_
      refine a_aload_n (j := 1) dX7_brokenPlace_28 rfl rfl (Nat.le_of_ble_eq_true rfl) ?_
      refine b_getp (a := 1) (p := 5) dX7_brokenPlace_29 fwX7_27 (by decide) rfl (by decide) rfl rfl ?_
      refine a_iload_n (j := 0) dX7_brokenPlace_32 rfl rfl ?_
      refine a_iconst dX7_brokenPlace_33 ⟨by decide, by decide⟩ ?_
      refine a_isub (z := (((i : Nat) : Int) - 1)) dX7_brokenPlace_34 (w_ok (by omega) (by omega)) ?_
      refine b_iaload (a := 5) (z := ((pj : Nat) : Int)) (i - 1) dX7_brokenPlace_35 (by decide) rfl (by omega) (by omega) (sp_nil rfl _) ((hR.2.2.2.2.1 (i - 1) (by omega)).trans hpj2) (fun r35_3 => ?_)
      refine b_aaloadp (a := 3) (p := (8 + 2 * pj)) pj dX7_brokenPlace_36 (by decide) rfl qa_18 rfl (by omega) (tr_a (Or.inl rfl : isWd 1) (show pj < 12 by omega)) ?_
      refine b_get (a := (8 + 2 * pj)) (z := N (17 + 11 * pj)) (t := 0) dX7_brokenPlace_37 fwX7_93 (by have := (tr_w (Or.inl rfl : isWd 1) (show pj < 12 by omega)).1; omega) (tr_w (Or.inl rfl : isWd 1) (show pj < 12 by omega)).2.1 (by decide) (tr_s (tr_w (Or.inl rfl : isWd 1) (show pj < 12 by omega)) (by decide)) rfl (hR.2.2.1 pj (by omega)).2.2.1 ?_
      refine a_icmp_eq (tgt := 45) dX7_brokenPlace_40 (by decide) (fun c40_4 => ?_) (fun c40_4 => ?_)
      · refine a_iinc (j := 0) (z' := ((i + 1 : Nat) : Int)) (lv' := [(1, vI ((i + 1 : Nat) : Int)), (0, vA 1)]) dX7_brokenPlace_45 rfl (w_okN (by omega) (by omega) (by omega)) (by decide) rfl ?_
        refine a_goto (tgt := 2) dX7_brokenPlace_48 (by decide) ?_
        refine a_lv (lv' := [(1, vI (((i + 1) : Nat) : Int)), (0, vA 1)]) (by intro q hq; simp only [List.mem_cons, List.not_mem_nil, or_false] at hq ⊢; rcases hq with rfl | rfl <;> simp) (ih (i + 1)  (by omega) (by omega) (iv.trans (fnd_s (fun e => e (by rw [← hpj, ← hpk]; omega)))) (by omega))
      · refine a_iload_n (j := 0) dX7_brokenPlace_43 rfl rfl ?_
        exact a_iret dX7_brokenPlace_44 rfl (post_v kQ (iv.trans (fnd_h (by omega) (show ¬ N (17 + 11 * plK N (i - 1)) = N (16 + 11 * plK N i) by rw [← hpj, ← hpk]; omega))))
theorem c_X7_brokenPlace {γ : GT} {d : Nat} {N : Nat → Int} {h : Nat → Nat → Int} {τ : List AC} {Post : Option AV → List AC → Prop} (hd : 0 ≤ d) (hR : WR h τ 1 N) (hX : NX N) (kQ : Post (some (vI (fndV (bkP N) 1 (Int.toNat (N 7))))) (mk h τ)) : Cj γ mX7_brokenPlace d 0 0 [vA 1] (mk h τ) Post := by
  have hX7 := hX.2.1
  obtain ⟨n, hn⟩ : ∃ n : Nat, N 7 = (n : Int) := ⟨Int.toNat (N 7), by omega⟩
  refine c_of (by decide) (Nat.le_of_ble_eq_true rfl) ?_
  show Aj γ mX7_brokenPlace d 0 0 Post 0 [(0, vA 1)] [] (mk h τ)
  refine a_iconst dX7_brokenPlace_0 ⟨by decide, by decide⟩ ?_
  refine a_istore_n (lv' := [(1, vI 1), (0, vA 1)]) dX7_brokenPlace_1 rfl (by decide) rfl ?_
  exact a_lv (lv' := [(1, vI ((1 : Nat) : Int)), (0, vA 1)]) (by intro q hq; simp only [List.mem_cons, List.not_mem_nil, or_false] at hq ⊢; rcases hq with rfl | rfl <;> simp) (l_broken (n := n) hd hR hX hn (post_v kQ (by rw [hn]; rfl)) (n + 1) 1 (by omega) (by omega) rfl (by omega))
set_option maxHeartbeats 8000000 in
theorem l_judge {γ : GT} {d : Nat} {N : Nat → Int} {n : Nat} {h : Nat → Nat → Int} {τ : List AC} {Post : Option AV → List AC → Prop} (hd : 1 ≤ d) (hN : h 124 = N) (hX : NX N) (hn : h 124 7 = ((n : Nat) : Int)) (kQ : Post (some (vI (fndV (bkP N) 1 n))) (mk h τ)) :
    ∀ (f i : Nat) , i ≤ (n + 1) → (n + 1) < i + f → (fndV (bkP N) 1 n = fndV (bkP N) i n) → (1 ≤ i) → Aj γ mX9_judge d 0 0 Post 2 [(1, vI ((i : Nat) : Int)), (0, vA 123)] [] (mk h τ) := by
  intro f
  induction f with
  | zero => intro i  h1_ h2_; omega
  | succ f ih =>
    intro i  h1_ h2_ iv i1
    subst hN
    obtain ⟨pk, hpk⟩ : ∃ pk : Nat, pk = plK (h 124) i := ⟨_, rfl⟩
    obtain ⟨pj, hpj⟩ : ∃ pj : Nat, pj = plK (h 124) (i - 1) := ⟨_, rfl⟩
    have hX7 := hX.2.1
    have hX5 := hX.1.1.2.2.2.2
    refine a_iload_n (j := 0) dX9_judge_2 rfl rfl ?_
    refine a_aload_n (j := 1) dX9_judge_3 rfl rfl (Nat.le_of_ble_eq_true rfl) ?_
    refine b_getp (a := 123) (p := 124) dX9_judge_4 fwX9_9 (by decide) rfl (by decide) rfl rfl ?_
    refine a_bipush dX9_judge_7 ⟨by decide, by decide, by decide⟩ ?_
    refine b_iaload (a := 124) (z := ((n : Nat) : Int)) 7 dX9_judge_9 (by decide) rfl rfl (by decide) rfl hn (fun r9_1 => ?_)
    refine a_icmp_ge (tgt := 56) dX9_judge_10 (by decide) (fun c10_2 => ?_) (fun c10_2 => ?_)
    · refine a_ldc (z := (-1000000005)) dX9_judge_56 kwX9_115 ⟨by decide, by decide, by decide⟩ ?_
      exact a_iret dX9_judge_58 rfl (post_v kQ (iv.trans (fnd_0 (by omega))))
    · have hx1 := hX.2.2.1 i (by omega)
      have hx2 := hX.2.2.1 (i - 1) (by omega)
      have hpk2 : h 124 (147 + i) = ((pk : Nat) : Int) := by rw [hpk]; unfold plK; omega
      have hpj2 : h 124 (147 + (i - 1)) = ((pj : Nat) : Int) := by rw [hpj]; unfold plK; omega
      refine a_aload_n (j := 1) dX9_judge_13 rfl rfl (Nat.le_of_ble_eq_true rfl) ?_
      refine a_aload_n (j := 1) dX9_judge_14 rfl rfl (Nat.le_of_ble_eq_true rfl) ?_
      refine b_getp (a := 123) (p := 124) dX9_judge_15 fwX9_9 (by decide) rfl (by decide) rfl rfl ?_
      refine a_sipush dX9_judge_18 ⟨by decide, by decide, by decide⟩ ?_
      refine a_iload_n (j := 0) dX9_judge_21 rfl rfl ?_
      refine a_iadd (z := (147 + ((i : Nat) : Int))) dX9_judge_22 (w_ok (by omega) (by omega)) ?_
      refine a_iconst dX9_judge_23 ⟨by decide, by decide⟩ ?_
      refine a_isub (z := ((147 + ((i : Nat) : Int)) - 1)) dX9_judge_24 (w_ok (by omega) (by omega)) ?_
      refine b_iaload (a := 124) (z := ((pj : Nat) : Int)) (147 + (i - 1)) dX9_judge_25 (by decide) rfl (by omega) (by omega) (sp_nil rfl _) hpj2 (fun r25_3 => ?_)
      refine a_iconst dX9_judge_26 ⟨by decide, by decide⟩ ?_
      refine b_callV (d' := d - 1) (mc' := 0) (ms' := 0) (mc1 := 0) (ms1 := 0) (st := []) (b := 123) [vI ((pj : Nat) : Int), vI 2] dX9_judge_27 mwX9_of lkX9_107 (by decide) rfl rc_X9 rfl (Nat.le_of_ble_eq_true rfl) (by omega) rfl rfl (c_X9_of (v1 := (h 124 (17 + 11 * pj))) (by omega)  (congrArg (h 124) (show (Int.toNat ((15 + (11 * ((pj : Nat) : Int))) + 2)) = (17 + 11 * pj) by omega)) (show 0 ≤ ((pj : Nat) : Int) ∧ ((pj : Nat) : Int) ≤ 11 ∧ 0 ≤ 2 ∧ 2 ≤ 10 by omega) ?_)
      show Aj γ mX9_judge d 0 0 Post 30 [(1, vI ((i : Nat) : Int)), (0, vA 123)] [vI (h 124 (17 + 11 * pj))] (mk h τ)
      refine a_aload_n (j := 1) dX9_judge_30 rfl rfl (Nat.le_of_ble_eq_true rfl) ?_
      refine a_aload_n (j := 1) dX9_judge_31 rfl rfl (Nat.le_of_ble_eq_true rfl) ?_
      refine b_getp (a := 123) (p := 124) dX9_judge_32 fwX9_9 (by decide) rfl (by decide) rfl rfl ?_
      refine a_sipush dX9_judge_35 ⟨by decide, by decide, by decide⟩ ?_
      refine a_iload_n (j := 0) dX9_judge_38 rfl rfl ?_
      refine a_iadd (z := (147 + ((i : Nat) : Int))) dX9_judge_39 (w_ok (by omega) (by omega)) ?_
      refine b_iaload (a := 124) (z := ((pk : Nat) : Int)) (147 + i) dX9_judge_40 (by decide) rfl (by omega) (by omega) (sp_nil rfl _) hpk2 (fun r40_4 => ?_)
      refine a_iconst dX9_judge_41 ⟨by decide, by decide⟩ ?_
      refine b_callV (d' := d - 1) (mc' := 0) (ms' := 0) (mc1 := 0) (ms1 := 0) (st := [vI (h 124 (17 + 11 * pj))]) (b := 123) [vI ((pk : Nat) : Int), vI 1] dX9_judge_42 mwX9_of lkX9_107 (by decide) rfl rc_X9 rfl (Nat.le_of_ble_eq_true rfl) (by omega) rfl rfl (c_X9_of (v1 := (h 124 (16 + 11 * pk))) (by omega)  (congrArg (h 124) (show (Int.toNat ((15 + (11 * ((pk : Nat) : Int))) + 1)) = (16 + 11 * pk) by omega)) (show 0 ≤ ((pk : Nat) : Int) ∧ ((pk : Nat) : Int) ≤ 11 ∧ 0 ≤ 1 ∧ 1 ≤ 10 by omega) ?_)
      show Aj γ mX9_judge d 0 0 Post 45 [(1, vI ((i : Nat) : Int)), (0, vA 123)] [vI (h 124 (16 + 11 * pk)), vI (h 124 (17 + 11 * pj))] (mk h τ)
      refine a_icmp_eq (tgt := 50) dX9_judge_45 (by decide) (fun c45_5 => ?_) (fun c45_5 => ?_)
      · refine a_iinc (j := 0) (z' := ((i + 1 : Nat) : Int)) (lv' := [(1, vI ((i + 1 : Nat) : Int)), (0, vA 123)]) dX9_judge_50 rfl (w_okN (by omega) (by omega) (by omega)) (by decide) rfl ?_
        refine a_goto (tgt := 2) dX9_judge_53 (by decide) ?_
        refine a_lv (lv' := [(1, vI (((i + 1) : Nat) : Int)), (0, vA 123)]) (by intro q hq; simp only [List.mem_cons, List.not_mem_nil, or_false] at hq ⊢; rcases hq with rfl | rfl <;> simp) (ih (i + 1)  (by omega) (by omega) (iv.trans (fnd_s (fun e => e (by rw [← hpj, ← hpk]; omega)))) (by omega))
      · refine a_iload_n (j := 0) dX9_judge_48 rfl rfl ?_
        exact a_iret dX9_judge_49 rfl (post_v kQ (iv.trans (fnd_h (by omega) (show ¬ h 124 (17 + 11 * plK (h 124) (i - 1)) = h 124 (16 + 11 * plK (h 124) i) by rw [← hpj, ← hpk]; omega))))
theorem c_X9_judge {γ : GT} {d : Nat} {N : Nat → Int} {h : Nat → Nat → Int} {τ : List AC} {Post : Option AV → List AC → Prop} (hd : 1 ≤ d) (hN : h 124 = N) (hX : NX N) (kQ : Post (some (vI (fndV (bkP N) 1 (Int.toNat (N 7))))) (mk h τ)) : Cj γ mX9_judge d 0 0 [vA 123] (mk h τ) Post := by
  have hX7 := hX.2.1
  obtain ⟨n, hn⟩ : ∃ n : Nat, N 7 = (n : Int) := ⟨Int.toNat (N 7), by omega⟩
  refine c_of (by decide) (Nat.le_of_ble_eq_true rfl) ?_
  show Aj γ mX9_judge d 0 0 Post 0 [(0, vA 123)] [] (mk h τ)
  refine a_iconst dX9_judge_0 ⟨by decide, by decide⟩ ?_
  refine a_istore_n (lv' := [(1, vI 1), (0, vA 123)]) dX9_judge_1 rfl (by decide) rfl ?_
  exact a_lv (lv' := [(1, vI ((1 : Nat) : Int)), (0, vA 123)]) (by intro q hq; simp only [List.mem_cons, List.not_mem_nil, or_false] at hq ⊢; rcases hq with rfl | rfl <;> simp) (l_judge (n := n) hd hN hX (by rw [hN]; exact hn) (post_v kQ (by rw [hn]; rfl)) (n + 1) 1 (by omega) (by omega) rfl (by omega))
set_option maxHeartbeats 8000000 in
theorem l_goI76 {γ : GT} {d : Nat} {T : Nat → Nat → Int} {a b : Nat} {W : Nat → Int} {r : Nat} {h : Nat → Nat → Int} {τ : List AC} {Post : Option AV → List AC → Prop} (hd : 2 ≤ d) (hT : tOK T) (hTT : TT h T) (ha : (a : Int) < T 0 2) (hb : (b : Int) < T 0 2) (hWb : ∀ s, s < 4 → 0 ≤ W s ∧ W s ≤ 2560000000000) (h17 : h 63 17 = ((76 : Nat) : Int)) (h18 : h 63 18 = ((77 : Nat) : Int)) (hW : ∀ s, s < 4 → h 76 s = W s) (hr : r < 4) (kE : ∀ x : Int, Aj γ mX5_goOn d 0 0 Post 53 [(6, vI x), (4, vL (sm (wgT T a b W r) 4)), (3, vI ((r : Nat) : Int)), (0, vA 63), (1, vI ((a : Nat) : Int)), (2, vI ((b : Nat) : Int))] [] (mk h τ)) :
    ∀ (f i : Nat), i ≤ 4 → 4 < i + f → Aj γ mX5_goOn d 0 0 Post 13 [(6, vI ((i : Nat) : Int)), (4, vL (sm (wgT T a b W r) i)), (3, vI ((r : Nat) : Int)), (0, vA 63), (1, vI ((a : Nat) : Int)), (2, vI ((b : Nat) : Int))] [] (mk h τ) := by
  intro f
  induction f with
  | zero => intro i h1 h2; omega
  | succ f ih =>
    intro i h1 h2
    have h2_ := hT.2.2.1
    have h3_ := hT.2.2.2.1
    have qa := hT.2.2.2.2.2 a
    have qa3 := qa.2.1
    have qa4 := qa.2.2.1
    have qa5 := qa.2.2.2.1
    have qa6 := qa.2.2.2.2.1
    have qa7 := qa.2.2.2.2.2.1
    have qa8 := (qa.2.2.2.2.2.2.2 (by omega))
    have qaw := hT.2.2.2.2.1 (Int.toNat (T 3 a))
    have qb := hT.2.2.2.2.2 b
    have qb3 := qb.2.1
    have qb4 := qb.2.2.1
    have qb5 := qb.2.2.2.1
    have qb6 := qb.2.2.2.2.1
    have qb7 := qb.2.2.2.2.2.1
    have qb8 := (qb.2.2.2.2.2.2.2 (by omega))
    have qbw := hT.2.2.2.2.1 (Int.toNat (T 3 b))
    have qb9r := qb.2.2.2.2.2.2.1 r (by omega)
    have hsm := sm4_rng (f := wgT T a b W r) (B := 2560000000000) (fun s hs => wg_rng hWb hs) (i := i) (by omega)
    refine a_iload (j := 0) dX5_goOn_13 rfl ?_
    refine a_iconst dX5_goOn_15 ⟨by decide, by decide⟩ ?_
    refine a_icmp_ge (tgt := 53) dX5_goOn_16 (by decide) (fun c16_1 => ?_) (fun c16_1 => ?_)
    · obtain rfl : i = 4 := (by omega)
      exact kE _
    · have qa9i := qa.2.2.2.2.2.2.1 i (by omega)
      have hWi := hWb i (by omega)
      refine a_lload (j := 1) dX5_goOn_19 rfl ?_
      refine a_aload_n (j := 3) dX5_goOn_21 rfl rfl (Nat.le_of_ble_eq_true rfl) ?_
      refine a_iload_n (j := 4) dX5_goOn_22 rfl rfl ?_
      refine a_iload (j := 0) dX5_goOn_23 rfl ?_
      refine a_iload_n (j := 5) dX5_goOn_25 rfl rfl ?_
      refine a_iload_n (j := 2) dX5_goOn_26 rfl rfl ?_
      refine b_callV (d' := d - 1) (mc' := 0) (ms' := 0) (mc1 := 0) (ms1 := 0) (st := [vL (sm (wgT T a b W r) i)]) (b := 63) [vI ((a : Nat) : Int), vI ((i : Nat) : Int), vI ((b : Nat) : Int), vI ((r : Nat) : Int)] dX5_goOn_27 mwX5_missedBy lkX5_167 (by decide) rfl rc_X5 rfl (Nat.le_of_ble_eq_true rfl) (by omega) rfl rfl (c_X5_missedBy (v1 := (T 9 (4 * a + i))) (v2 := (T 4 a)) (v3 := (T 3 a)) (v4 := (T 1 (Int.toNat (T 3 a)))) (v5 := (T 9 (4 * b + r))) (v6 := (T 7 b)) (by omega)  ((congrArg (h 72) (show (Int.toNat ((((a : Nat) : Int) * 4) + ((i : Nat) : Int))) = (4 * a + i) by omega)).trans ((hTT.2.2.1 a (by omega)).2.2.2.2.2.2 i (by omega)).2) ((congrArg (h 67) (show (Int.toNat ((a : Nat) : Int)) = a by omega)).trans (hTT.2.2.1 a (by omega)).2.2.1) ((congrArg (h 66) (show (Int.toNat ((a : Nat) : Int)) = a by omega)).trans (hTT.2.2.1 a (by omega)).2.1) (hTT.2.1 _ (by omega)) ((congrArg (h 72) (show (Int.toNat ((((b : Nat) : Int) * 4) + ((r : Nat) : Int))) = (4 * b + r) by omega)).trans ((hTT.2.2.1 b (by omega)).2.2.2.2.2.2 r (by omega)).2) ((congrArg (h 70) (show (Int.toNat ((b : Nat) : Int)) = b by omega)).trans (hTT.2.2.1 b (by omega)).2.2.2.2.2.1) (show 0 ≤ ((a : Nat) : Int) ∧ ((a : Nat) : Int) ≤ 11 by omega) (show 0 ≤ ((b : Nat) : Int) ∧ ((b : Nat) : Int) ≤ 11 by omega) (show 0 ≤ ((i : Nat) : Int) ∧ ((i : Nat) : Int) ≤ 3 by omega) (show 0 ≤ ((r : Nat) : Int) ∧ ((r : Nat) : Int) ≤ 3 by omega) (show 0 ≤ (T 9 (4 * a + i)) ∧ (T 9 (4 * a + i)) ≤ 3000 by omega) (show 1 ≤ (T 4 a) ∧ (T 4 a) ≤ 600 by omega) (show 0 ≤ (T 3 a) ∧ (T 3 a) ≤ 5 by omega) (show 0 ≤ (T 1 (Int.toNat (T 3 a))) ∧ (T 1 (Int.toNat (T 3 a))) ≤ 99 by omega) (show 0 ≤ (T 9 (4 * b + r)) ∧ (T 9 (4 * b + r)) ≤ 3000 by omega) (show 0 ≤ (T 7 b) ∧ (T 7 b) ≤ 30 by omega) ?_)
      show Aj γ mX5_goOn d 0 0 Post 30 [(6, vI ((i : Nat) : Int)), (4, vL (sm (wgT T a b W r) i)), (3, vI ((r : Nat) : Int)), (0, vA 63), (1, vI ((a : Nat) : Int)), (2, vI ((b : Nat) : Int))] [vI ((T 9 (4 * a + i)) + (T 4 a) + (T 1 (Int.toNat (T 3 a))) - (T 9 (4 * b + r)) - (T 7 b)), vL (sm (wgT T a b W r) i)] (mk h τ)
      show Aj γ mX5_goOn d 0 0 Post 30 [(6, vI ((i : Nat) : Int)), (4, vL (sm (wgT T a b W r) i)), (3, vI ((r : Nat) : Int)), (0, vA 63), (1, vI ((a : Nat) : Int)), (2, vI ((b : Nat) : Int))] [vI (msT T a i b r), vL (sm (wgT T a b W r) i)] (mk h τ)
      refine a_if_gt (tgt := 43) dX5_goOn_30 (by decide) (fun c30_2 => ?_) (fun c30_2 => ?_)
      · refine a_lconst (z := 0) dX5_goOn_43 ⟨by decide, by decide, by decide⟩ ?_
        refine a_ladd (z := (sm (wgT T a b W r) i) + 0) dX5_goOn_44 (w_okL (by omega) (by omega)) ?_
        refine a_lstore (lv' := [(4, vL ((sm (wgT T a b W r) i) + 0)), (6, vI ((i : Nat) : Int)), (3, vI ((r : Nat) : Int)), (0, vA 63), (1, vI ((a : Nat) : Int)), (2, vI ((b : Nat) : Int))]) dX5_goOn_45 (by decide) rfl ?_
        refine a_iinc (j := 1) (z' := ((i + 1 : Nat) : Int)) (lv' := [(6, vI ((i + 1 : Nat) : Int)), (4, vL ((sm (wgT T a b W r) i) + 0)), (3, vI ((r : Nat) : Int)), (0, vA 63), (1, vI ((a : Nat) : Int)), (2, vI ((b : Nat) : Int))]) dX5_goOn_47 rfl (w_okN (by omega) (by omega) (by omega)) (by decide) rfl ?_
        refine a_goto (tgt := 13) dX5_goOn_50 (by decide) ?_
        have e : sm (wgT T a b W r) (i + 1) = (sm (wgT T a b W r) i) + 0 := by rw [sm_s, show wgT T a b W r i = 0 from if_neg (by omega)]
        have q := ih (i + 1) (by omega) (by omega)
        rw [e] at q
        exact a_lv (lv' := [(6, vI (((i + 1) : Nat) : Int)), (4, vL ((sm (wgT T a b W r) i) + 0)), (3, vI ((r : Nat) : Int)), (0, vA 63), (1, vI ((a : Nat) : Int)), (2, vI ((b : Nat) : Int))]) (by intro q hq; simp only [List.mem_cons, List.not_mem_nil, or_false] at hq ⊢; rcases hq with rfl | rfl | rfl | rfl | rfl | rfl <;> simp) q
      · refine a_aload_n (j := 3) dX5_goOn_33 rfl rfl (Nat.le_of_ble_eq_true rfl) ?_
        refine b_get (a := 63) (z := ((76 : Nat) : Int)) (t := 2) dX5_goOn_34 fwX5_52 (by decide) rfl (by decide) rfl rfl h17 ?_
        refine a_iload (j := 0) dX5_goOn_37 rfl ?_
        refine b_laload (a := 76) (z := W i) i dX5_goOn_39 (by decide) rfl rfl (by omega) (sp_nil rfl _) (hW i (by omega)) (fun r39_3 => ?_)
        refine a_goto (tgt := 44) dX5_goOn_40 (by decide) ?_
        refine a_ladd (z := ((sm (wgT T a b W r) i) + (W i))) dX5_goOn_44 (w_okL (by omega) (by omega)) ?_
        refine a_lstore (lv' := [(4, vL ((sm (wgT T a b W r) i) + (W i))), (6, vI ((i : Nat) : Int)), (3, vI ((r : Nat) : Int)), (0, vA 63), (1, vI ((a : Nat) : Int)), (2, vI ((b : Nat) : Int))]) dX5_goOn_45 (by decide) rfl ?_
        refine a_iinc (j := 1) (z' := ((i + 1 : Nat) : Int)) (lv' := [(6, vI ((i + 1 : Nat) : Int)), (4, vL ((sm (wgT T a b W r) i) + (W i))), (3, vI ((r : Nat) : Int)), (0, vA 63), (1, vI ((a : Nat) : Int)), (2, vI ((b : Nat) : Int))]) dX5_goOn_47 rfl (w_okN (by omega) (by omega) (by omega)) (by decide) rfl ?_
        refine a_goto (tgt := 13) dX5_goOn_50 (by decide) ?_
        have e : sm (wgT T a b W r) (i + 1) = ((sm (wgT T a b W r) i) + (W i)) := by rw [sm_s, show wgT T a b W r i = W i from if_pos (by omega)]
        have q := ih (i + 1) (by omega) (by omega)
        rw [e] at q
        exact a_lv (lv' := [(6, vI (((i + 1) : Nat) : Int)), (4, vL ((sm (wgT T a b W r) i) + (W i))), (3, vI ((r : Nat) : Int)), (0, vA 63), (1, vI ((a : Nat) : Int)), (2, vI ((b : Nat) : Int))]) (by intro q hq; simp only [List.mem_cons, List.not_mem_nil, or_false] at hq ⊢; rcases hq with rfl | rfl | rfl | rfl | rfl | rfl <;> simp) q
set_option maxHeartbeats 8000000 in
theorem l_goO76 {γ : GT} {d : Nat} {T : Nat → Nat → Int} {a b : Nat} {W : Nat → Int} {h : Nat → Nat → Int} {τ : List AC} {Post : Option AV → List AC → Prop} (hd : 2 ≤ d) (hT : tOK T) (hTT : TT h T) (ha : (a : Int) < T 0 2) (hb : (b : Int) < T 0 2) (hWb : ∀ s, s < 4 → 0 ≤ W s ∧ W s ≤ 2560000000000) (h17 : h 63 17 = ((76 : Nat) : Int)) (h18 : h 63 18 = ((77 : Nat) : Int)) (hW : ∀ s, s < 4 → h 76 s = W s) (kQ : ∀ h', Fr [63, 76, 77] h h' → K18 h h' → WY h' (wyS T a b W) → Post none (mk h' τ)) :
    ∀ (f i : Nat) (h1 : Nat → Nat → Int), i ≤ 4 → 4 < i + f → Fr [77] h h1 → (∀ s : Nat, s < i → h1 77 s = wyS T a b W s) → Aj γ mX5_goOn d 0 0 Post 2 [(3, vI ((i : Nat) : Int)), (0, vA 63), (1, vI ((a : Nat) : Int)), (2, vI ((b : Nat) : Int))] [] (mk h1 τ) := by
  intro f
  induction f with
  | zero => intro i h1  h1_ h2_; omega
  | succ f ih =>
    intro i h1  h1_ h2_ hF iv
    have h2_ := hT.2.2.1
    have h3_ := hT.2.2.2.1
    have qa := hT.2.2.2.2.2 a
    have qa3 := qa.2.1
    have qa4 := qa.2.2.1
    have qa5 := qa.2.2.2.1
    have qa6 := qa.2.2.2.2.1
    have qa7 := qa.2.2.2.2.2.1
    have qa8 := (qa.2.2.2.2.2.2.2 (by omega))
    have qaw := hT.2.2.2.2.1 (Int.toNat (T 3 a))
    have qb := hT.2.2.2.2.2 b
    have qb3 := qb.2.1
    have qb4 := qb.2.2.1
    have qb5 := qb.2.2.2.1
    have qb6 := qb.2.2.2.2.1
    have qb7 := qb.2.2.2.2.2.1
    have qb8 := (qb.2.2.2.2.2.2.2 (by omega))
    have qbw := hT.2.2.2.2.1 (Int.toNat (T 3 b))
    refine a_iload_n (j := 0) dX5_goOn_2 rfl rfl ?_
    refine a_iconst dX5_goOn_3 ⟨by decide, by decide⟩ ?_
    refine a_icmp_ge (tgt := 79) dX5_goOn_4 (by decide) (fun c4_1 => ?_) (fun c4_1 => ?_)
    · refine a_aload_n (j := 1) dX5_goOn_79 rfl rfl (Nat.le_of_ble_eq_true rfl) ?_
      refine b_get (a := 63) (z := ((76 : Nat) : Int)) (t := 2) dX5_goOn_80 fwX5_52 (by decide) rfl (by decide) rfl rfl ((Fr_v hF (by decide)).trans h17) ?_
      refine a_astore_n (lv' := [(3, vA 76), (0, vA 63), (1, vI ((a : Nat) : Int)), (2, vI ((b : Nat) : Int))]) dX5_goOn_83 rfl (by decide) (Nat.le_of_ble_eq_true rfl) rfl ?_
      refine a_aload_n (j := 1) dX5_goOn_84 rfl rfl (Nat.le_of_ble_eq_true rfl) ?_
      refine a_aload_n (j := 1) dX5_goOn_85 rfl rfl (Nat.le_of_ble_eq_true rfl) ?_
      refine b_get (a := 63) (z := ((77 : Nat) : Int)) (t := 2) dX5_goOn_86 fwX5_56 (by decide) rfl (by decide) rfl rfl ((Fr_v hF (by decide)).trans h18) ?_
      refine b_put (a := 63) (v := vA 77) dX5_goOn_89 pwX5_52 (fun h => nomatch h) (by decide) rfl (by decide) rfl rfl (fit_arr (Nat.le_of_ble_eq_true rfl)) ?_
      show Aj γ mX5_goOn d 0 0 Post 92 [(3, vA 76), (0, vA 63), (1, vI ((a : Nat) : Int)), (2, vI ((b : Nat) : Int))] [] (mk (up2 h1 63 17 ((77 : Nat) : Int)) τ)
      refine a_aload_n (j := 1) dX5_goOn_92 rfl rfl (Nat.le_of_ble_eq_true rfl) ?_
      refine a_aload_n (j := 0) dX5_goOn_93 rfl rfl (Nat.le_of_ble_eq_true rfl) ?_
      refine b_put (a := 63) (v := vA 76) dX5_goOn_94 pwX5_56 (fun h => nomatch h) (by decide) rfl (by decide) rfl rfl (fit_arr (Nat.le_of_ble_eq_true rfl)) ?_
      show Aj γ mX5_goOn d 0 0 Post 97 [(3, vA 76), (0, vA 63), (1, vI ((a : Nat) : Int)), (2, vI ((b : Nat) : Int))] [] (mk (up2 (up2 h1 63 17 ((77 : Nat) : Int)) 63 18 ((76 : Nat) : Int)) τ)
      exact a_vret dX5_goOn_97 rfl (kQ _ (Fr_u (by decide) (Fr_u (by decide) (Fr_m (by decide) hF))) (fun k a b => (up2_ne (by omega)).trans ((up2_ne (by omega)).trans (Fr_v hF (by decide)))) (Or.inr ⟨(up2_ne (by decide)).trans up2_at, up2_at, fun s hs => (up2_ne (by omega)).trans ((up2_ne (by omega)).trans (iv s (by omega)))⟩))
    · refine a_lconst (z := 0) dX5_goOn_7 ⟨by decide, by decide, by decide⟩ ?_
      refine a_lstore (lv' := [(4, vL 0), (3, vI ((i : Nat) : Int)), (0, vA 63), (1, vI ((a : Nat) : Int)), (2, vI ((b : Nat) : Int))]) dX5_goOn_8 (by decide) rfl ?_
      refine a_iconst dX5_goOn_10 ⟨by decide, by decide⟩ ?_
      refine a_istore (lv' := [(6, vI 0), (4, vL 0), (3, vI ((i : Nat) : Int)), (0, vA 63), (1, vI ((a : Nat) : Int)), (2, vI ((b : Nat) : Int))]) dX5_goOn_11 (by decide) rfl ?_
      refine a_lv (lv' := [(6, vI ((0 : Nat) : Int)), (4, vL 0), (3, vI ((i : Nat) : Int)), (0, vA 63), (1, vI ((a : Nat) : Int)), (2, vI ((b : Nat) : Int))]) (by intro q hq; simp only [List.mem_cons, List.not_mem_nil, or_false] at hq ⊢; rcases hq with rfl | rfl | rfl | rfl | rfl | rfl <;> simp) (l_goI76 (h := h1) (r := i) hd hT (TT_fr (by decide) hF hTT) ha hb hWb ((Fr_v hF (by decide)).trans h17) ((Fr_v hF (by decide)).trans h18) (fun s hs => (Fr_v hF (by decide)).trans (hW s hs)) (by omega) ?_ 5 0 (by omega) (by omega))
      intro x7
      have hs7 := sm4_rng (f := wgT T a b W i) (B := 2560000000000) (fun s hs => wg_rng hWb hs) (i := 4) (by omega)
      have qb9i := qb.2.2.2.2.2.2.1 i (by omega)
      have hpr := mul_rng hs7 qb9i.1
      refine a_aload_n (j := 3) dX5_goOn_53 rfl rfl (Nat.le_of_ble_eq_true rfl) ?_
      refine b_get (a := 63) (z := ((77 : Nat) : Int)) (t := 2) dX5_goOn_54 fwX5_56 (by decide) rfl (by decide) rfl rfl ((Fr_v hF (by decide)).trans h18) ?_
      refine a_iload_n (j := 2) dX5_goOn_57 rfl rfl ?_
      refine a_lload (j := 1) dX5_goOn_58 rfl ?_
      refine a_aload_n (j := 3) dX5_goOn_60 rfl rfl (Nat.le_of_ble_eq_true rfl) ?_
      refine b_getp (a := 63) (p := 71) dX5_goOn_61 fwX5_37 (by decide) rfl (by decide) rfl rfl ?_
      refine a_iload_n (j := 5) dX5_goOn_64 rfl rfl ?_
      refine a_iconst dX5_goOn_65 ⟨by decide, by decide⟩ ?_
      refine a_imul (z := (((b : Nat) : Int) * 4)) dX5_goOn_66 (w_ok (by omega) (by omega)) ?_
      refine a_iload_n (j := 2) dX5_goOn_67 rfl rfl ?_
      refine a_iadd (z := ((((b : Nat) : Int) * 4) + ((i : Nat) : Int))) dX5_goOn_68 (w_ok (by omega) (by omega)) ?_
      refine b_iaload (a := 71) (z := T 8 (4 * b + i)) (4 * b + i) dX5_goOn_69 (by decide) rfl (by omega) (by omega) (sp_nil rfl _) ((Fr_v hF (by decide)).trans ((hTT.2.2.1 b (by omega)).2.2.2.2.2.2 i (by omega)).1) (fun r69_2 => ?_)
      refine a_i2l dX5_goOn_70 ?_
      refine a_lmul (z := ((sm (wgT T a b W i) 4) * (T 8 (4 * b + i)))) dX5_goOn_71 (w_okL (by omega) (by omega)) ?_
      refine b_lastore (a := 77) i dX5_goOn_72 (by decide) rfl rfl (by omega) (sp_nil rfl _) ?_
      refine a_iinc (j := 2) (z' := ((i + 1 : Nat) : Int)) (lv' := [(3, vI ((i + 1 : Nat) : Int)), (6, vI x7), (4, vL (sm (wgT T a b W i) 4)), (0, vA 63), (1, vI ((a : Nat) : Int)), (2, vI ((b : Nat) : Int))]) dX5_goOn_73 rfl (w_okN (by omega) (by omega) (by omega)) (by decide) rfl ?_
      refine a_goto (tgt := 2) dX5_goOn_76 (by decide) ?_
      refine a_lv (lv' := [(3, vI (((i + 1) : Nat) : Int)), (0, vA 63), (1, vI ((a : Nat) : Int)), (2, vI ((b : Nat) : Int))]) (by intro q hq; simp only [List.mem_cons, List.not_mem_nil, or_false] at hq ⊢; rcases hq with rfl | rfl | rfl | rfl <;> simp) (ih (i + 1) (up2 h1 77 i ((sm (wgT T a b W i) 4) * (T 8 (4 * b + i))))  (by omega) (by omega) (Fr_u (by decide) (Fr_m (by decide) hF)) (fun s hs => by
          by_cases c : s = i
          · subst c; exact up2_at
          · exact (up2_ne (by omega)).trans (iv s (by omega))))
set_option maxHeartbeats 8000000 in
theorem l_goI77 {γ : GT} {d : Nat} {T : Nat → Nat → Int} {a b : Nat} {W : Nat → Int} {r : Nat} {h : Nat → Nat → Int} {τ : List AC} {Post : Option AV → List AC → Prop} (hd : 2 ≤ d) (hT : tOK T) (hTT : TT h T) (ha : (a : Int) < T 0 2) (hb : (b : Int) < T 0 2) (hWb : ∀ s, s < 4 → 0 ≤ W s ∧ W s ≤ 2560000000000) (h17 : h 63 17 = ((77 : Nat) : Int)) (h18 : h 63 18 = ((76 : Nat) : Int)) (hW : ∀ s, s < 4 → h 77 s = W s) (hr : r < 4) (kE : ∀ x : Int, Aj γ mX5_goOn d 0 0 Post 53 [(6, vI x), (4, vL (sm (wgT T a b W r) 4)), (3, vI ((r : Nat) : Int)), (0, vA 63), (1, vI ((a : Nat) : Int)), (2, vI ((b : Nat) : Int))] [] (mk h τ)) :
    ∀ (f i : Nat), i ≤ 4 → 4 < i + f → Aj γ mX5_goOn d 0 0 Post 13 [(6, vI ((i : Nat) : Int)), (4, vL (sm (wgT T a b W r) i)), (3, vI ((r : Nat) : Int)), (0, vA 63), (1, vI ((a : Nat) : Int)), (2, vI ((b : Nat) : Int))] [] (mk h τ) := by
  intro f
  induction f with
  | zero => intro i h1 h2; omega
  | succ f ih =>
    intro i h1 h2
    have h2_ := hT.2.2.1
    have h3_ := hT.2.2.2.1
    have qa := hT.2.2.2.2.2 a
    have qa3 := qa.2.1
    have qa4 := qa.2.2.1
    have qa5 := qa.2.2.2.1
    have qa6 := qa.2.2.2.2.1
    have qa7 := qa.2.2.2.2.2.1
    have qa8 := (qa.2.2.2.2.2.2.2 (by omega))
    have qaw := hT.2.2.2.2.1 (Int.toNat (T 3 a))
    have qb := hT.2.2.2.2.2 b
    have qb3 := qb.2.1
    have qb4 := qb.2.2.1
    have qb5 := qb.2.2.2.1
    have qb6 := qb.2.2.2.2.1
    have qb7 := qb.2.2.2.2.2.1
    have qb8 := (qb.2.2.2.2.2.2.2 (by omega))
    have qbw := hT.2.2.2.2.1 (Int.toNat (T 3 b))
    have qb9r := qb.2.2.2.2.2.2.1 r (by omega)
    have hsm := sm4_rng (f := wgT T a b W r) (B := 2560000000000) (fun s hs => wg_rng hWb hs) (i := i) (by omega)
    refine a_iload (j := 0) dX5_goOn_13 rfl ?_
    refine a_iconst dX5_goOn_15 ⟨by decide, by decide⟩ ?_
    refine a_icmp_ge (tgt := 53) dX5_goOn_16 (by decide) (fun c16_1 => ?_) (fun c16_1 => ?_)
    · obtain rfl : i = 4 := (by omega)
      exact kE _
    · have qa9i := qa.2.2.2.2.2.2.1 i (by omega)
      have hWi := hWb i (by omega)
      refine a_lload (j := 1) dX5_goOn_19 rfl ?_
      refine a_aload_n (j := 3) dX5_goOn_21 rfl rfl (Nat.le_of_ble_eq_true rfl) ?_
      refine a_iload_n (j := 4) dX5_goOn_22 rfl rfl ?_
      refine a_iload (j := 0) dX5_goOn_23 rfl ?_
      refine a_iload_n (j := 5) dX5_goOn_25 rfl rfl ?_
      refine a_iload_n (j := 2) dX5_goOn_26 rfl rfl ?_
      refine b_callV (d' := d - 1) (mc' := 0) (ms' := 0) (mc1 := 0) (ms1 := 0) (st := [vL (sm (wgT T a b W r) i)]) (b := 63) [vI ((a : Nat) : Int), vI ((i : Nat) : Int), vI ((b : Nat) : Int), vI ((r : Nat) : Int)] dX5_goOn_27 mwX5_missedBy lkX5_167 (by decide) rfl rc_X5 rfl (Nat.le_of_ble_eq_true rfl) (by omega) rfl rfl (c_X5_missedBy (v1 := (T 9 (4 * a + i))) (v2 := (T 4 a)) (v3 := (T 3 a)) (v4 := (T 1 (Int.toNat (T 3 a)))) (v5 := (T 9 (4 * b + r))) (v6 := (T 7 b)) (by omega)  ((congrArg (h 72) (show (Int.toNat ((((a : Nat) : Int) * 4) + ((i : Nat) : Int))) = (4 * a + i) by omega)).trans ((hTT.2.2.1 a (by omega)).2.2.2.2.2.2 i (by omega)).2) ((congrArg (h 67) (show (Int.toNat ((a : Nat) : Int)) = a by omega)).trans (hTT.2.2.1 a (by omega)).2.2.1) ((congrArg (h 66) (show (Int.toNat ((a : Nat) : Int)) = a by omega)).trans (hTT.2.2.1 a (by omega)).2.1) (hTT.2.1 _ (by omega)) ((congrArg (h 72) (show (Int.toNat ((((b : Nat) : Int) * 4) + ((r : Nat) : Int))) = (4 * b + r) by omega)).trans ((hTT.2.2.1 b (by omega)).2.2.2.2.2.2 r (by omega)).2) ((congrArg (h 70) (show (Int.toNat ((b : Nat) : Int)) = b by omega)).trans (hTT.2.2.1 b (by omega)).2.2.2.2.2.1) (show 0 ≤ ((a : Nat) : Int) ∧ ((a : Nat) : Int) ≤ 11 by omega) (show 0 ≤ ((b : Nat) : Int) ∧ ((b : Nat) : Int) ≤ 11 by omega) (show 0 ≤ ((i : Nat) : Int) ∧ ((i : Nat) : Int) ≤ 3 by omega) (show 0 ≤ ((r : Nat) : Int) ∧ ((r : Nat) : Int) ≤ 3 by omega) (show 0 ≤ (T 9 (4 * a + i)) ∧ (T 9 (4 * a + i)) ≤ 3000 by omega) (show 1 ≤ (T 4 a) ∧ (T 4 a) ≤ 600 by omega) (show 0 ≤ (T 3 a) ∧ (T 3 a) ≤ 5 by omega) (show 0 ≤ (T 1 (Int.toNat (T 3 a))) ∧ (T 1 (Int.toNat (T 3 a))) ≤ 99 by omega) (show 0 ≤ (T 9 (4 * b + r)) ∧ (T 9 (4 * b + r)) ≤ 3000 by omega) (show 0 ≤ (T 7 b) ∧ (T 7 b) ≤ 30 by omega) ?_)
      show Aj γ mX5_goOn d 0 0 Post 30 [(6, vI ((i : Nat) : Int)), (4, vL (sm (wgT T a b W r) i)), (3, vI ((r : Nat) : Int)), (0, vA 63), (1, vI ((a : Nat) : Int)), (2, vI ((b : Nat) : Int))] [vI ((T 9 (4 * a + i)) + (T 4 a) + (T 1 (Int.toNat (T 3 a))) - (T 9 (4 * b + r)) - (T 7 b)), vL (sm (wgT T a b W r) i)] (mk h τ)
      show Aj γ mX5_goOn d 0 0 Post 30 [(6, vI ((i : Nat) : Int)), (4, vL (sm (wgT T a b W r) i)), (3, vI ((r : Nat) : Int)), (0, vA 63), (1, vI ((a : Nat) : Int)), (2, vI ((b : Nat) : Int))] [vI (msT T a i b r), vL (sm (wgT T a b W r) i)] (mk h τ)
      refine a_if_gt (tgt := 43) dX5_goOn_30 (by decide) (fun c30_2 => ?_) (fun c30_2 => ?_)
      · refine a_lconst (z := 0) dX5_goOn_43 ⟨by decide, by decide, by decide⟩ ?_
        refine a_ladd (z := (sm (wgT T a b W r) i) + 0) dX5_goOn_44 (w_okL (by omega) (by omega)) ?_
        refine a_lstore (lv' := [(4, vL ((sm (wgT T a b W r) i) + 0)), (6, vI ((i : Nat) : Int)), (3, vI ((r : Nat) : Int)), (0, vA 63), (1, vI ((a : Nat) : Int)), (2, vI ((b : Nat) : Int))]) dX5_goOn_45 (by decide) rfl ?_
        refine a_iinc (j := 1) (z' := ((i + 1 : Nat) : Int)) (lv' := [(6, vI ((i + 1 : Nat) : Int)), (4, vL ((sm (wgT T a b W r) i) + 0)), (3, vI ((r : Nat) : Int)), (0, vA 63), (1, vI ((a : Nat) : Int)), (2, vI ((b : Nat) : Int))]) dX5_goOn_47 rfl (w_okN (by omega) (by omega) (by omega)) (by decide) rfl ?_
        refine a_goto (tgt := 13) dX5_goOn_50 (by decide) ?_
        have e : sm (wgT T a b W r) (i + 1) = (sm (wgT T a b W r) i) + 0 := by rw [sm_s, show wgT T a b W r i = 0 from if_neg (by omega)]
        have q := ih (i + 1) (by omega) (by omega)
        rw [e] at q
        exact a_lv (lv' := [(6, vI (((i + 1) : Nat) : Int)), (4, vL ((sm (wgT T a b W r) i) + 0)), (3, vI ((r : Nat) : Int)), (0, vA 63), (1, vI ((a : Nat) : Int)), (2, vI ((b : Nat) : Int))]) (by intro q hq; simp only [List.mem_cons, List.not_mem_nil, or_false] at hq ⊢; rcases hq with rfl | rfl | rfl | rfl | rfl | rfl <;> simp) q
      · refine a_aload_n (j := 3) dX5_goOn_33 rfl rfl (Nat.le_of_ble_eq_true rfl) ?_
        refine b_get (a := 63) (z := ((77 : Nat) : Int)) (t := 2) dX5_goOn_34 fwX5_52 (by decide) rfl (by decide) rfl rfl h17 ?_
        refine a_iload (j := 0) dX5_goOn_37 rfl ?_
        refine b_laload (a := 77) (z := W i) i dX5_goOn_39 (by decide) rfl rfl (by omega) (sp_nil rfl _) (hW i (by omega)) (fun r39_3 => ?_)
        refine a_goto (tgt := 44) dX5_goOn_40 (by decide) ?_
        refine a_ladd (z := ((sm (wgT T a b W r) i) + (W i))) dX5_goOn_44 (w_okL (by omega) (by omega)) ?_
        refine a_lstore (lv' := [(4, vL ((sm (wgT T a b W r) i) + (W i))), (6, vI ((i : Nat) : Int)), (3, vI ((r : Nat) : Int)), (0, vA 63), (1, vI ((a : Nat) : Int)), (2, vI ((b : Nat) : Int))]) dX5_goOn_45 (by decide) rfl ?_
        refine a_iinc (j := 1) (z' := ((i + 1 : Nat) : Int)) (lv' := [(6, vI ((i + 1 : Nat) : Int)), (4, vL ((sm (wgT T a b W r) i) + (W i))), (3, vI ((r : Nat) : Int)), (0, vA 63), (1, vI ((a : Nat) : Int)), (2, vI ((b : Nat) : Int))]) dX5_goOn_47 rfl (w_okN (by omega) (by omega) (by omega)) (by decide) rfl ?_
        refine a_goto (tgt := 13) dX5_goOn_50 (by decide) ?_
        have e : sm (wgT T a b W r) (i + 1) = ((sm (wgT T a b W r) i) + (W i)) := by rw [sm_s, show wgT T a b W r i = W i from if_pos (by omega)]
        have q := ih (i + 1) (by omega) (by omega)
        rw [e] at q
        exact a_lv (lv' := [(6, vI (((i + 1) : Nat) : Int)), (4, vL ((sm (wgT T a b W r) i) + (W i))), (3, vI ((r : Nat) : Int)), (0, vA 63), (1, vI ((a : Nat) : Int)), (2, vI ((b : Nat) : Int))]) (by intro q hq; simp only [List.mem_cons, List.not_mem_nil, or_false] at hq ⊢; rcases hq with rfl | rfl | rfl | rfl | rfl | rfl <;> simp) q
set_option maxHeartbeats 8000000 in
theorem l_goO77 {γ : GT} {d : Nat} {T : Nat → Nat → Int} {a b : Nat} {W : Nat → Int} {h : Nat → Nat → Int} {τ : List AC} {Post : Option AV → List AC → Prop} (hd : 2 ≤ d) (hT : tOK T) (hTT : TT h T) (ha : (a : Int) < T 0 2) (hb : (b : Int) < T 0 2) (hWb : ∀ s, s < 4 → 0 ≤ W s ∧ W s ≤ 2560000000000) (h17 : h 63 17 = ((77 : Nat) : Int)) (h18 : h 63 18 = ((76 : Nat) : Int)) (hW : ∀ s, s < 4 → h 77 s = W s) (kQ : ∀ h', Fr [63, 76, 77] h h' → K18 h h' → WY h' (wyS T a b W) → Post none (mk h' τ)) :
    ∀ (f i : Nat) (h1 : Nat → Nat → Int), i ≤ 4 → 4 < i + f → Fr [76] h h1 → (∀ s : Nat, s < i → h1 76 s = wyS T a b W s) → Aj γ mX5_goOn d 0 0 Post 2 [(3, vI ((i : Nat) : Int)), (0, vA 63), (1, vI ((a : Nat) : Int)), (2, vI ((b : Nat) : Int))] [] (mk h1 τ) := by
  intro f
  induction f with
  | zero => intro i h1  h1_ h2_; omega
  | succ f ih =>
    intro i h1  h1_ h2_ hF iv
    have h2_ := hT.2.2.1
    have h3_ := hT.2.2.2.1
    have qa := hT.2.2.2.2.2 a
    have qa3 := qa.2.1
    have qa4 := qa.2.2.1
    have qa5 := qa.2.2.2.1
    have qa6 := qa.2.2.2.2.1
    have qa7 := qa.2.2.2.2.2.1
    have qa8 := (qa.2.2.2.2.2.2.2 (by omega))
    have qaw := hT.2.2.2.2.1 (Int.toNat (T 3 a))
    have qb := hT.2.2.2.2.2 b
    have qb3 := qb.2.1
    have qb4 := qb.2.2.1
    have qb5 := qb.2.2.2.1
    have qb6 := qb.2.2.2.2.1
    have qb7 := qb.2.2.2.2.2.1
    have qb8 := (qb.2.2.2.2.2.2.2 (by omega))
    have qbw := hT.2.2.2.2.1 (Int.toNat (T 3 b))
    refine a_iload_n (j := 0) dX5_goOn_2 rfl rfl ?_
    refine a_iconst dX5_goOn_3 ⟨by decide, by decide⟩ ?_
    refine a_icmp_ge (tgt := 79) dX5_goOn_4 (by decide) (fun c4_1 => ?_) (fun c4_1 => ?_)
    · refine a_aload_n (j := 1) dX5_goOn_79 rfl rfl (Nat.le_of_ble_eq_true rfl) ?_
      refine b_get (a := 63) (z := ((77 : Nat) : Int)) (t := 2) dX5_goOn_80 fwX5_52 (by decide) rfl (by decide) rfl rfl ((Fr_v hF (by decide)).trans h17) ?_
      refine a_astore_n (lv' := [(3, vA 77), (0, vA 63), (1, vI ((a : Nat) : Int)), (2, vI ((b : Nat) : Int))]) dX5_goOn_83 rfl (by decide) (Nat.le_of_ble_eq_true rfl) rfl ?_
      refine a_aload_n (j := 1) dX5_goOn_84 rfl rfl (Nat.le_of_ble_eq_true rfl) ?_
      refine a_aload_n (j := 1) dX5_goOn_85 rfl rfl (Nat.le_of_ble_eq_true rfl) ?_
      refine b_get (a := 63) (z := ((76 : Nat) : Int)) (t := 2) dX5_goOn_86 fwX5_56 (by decide) rfl (by decide) rfl rfl ((Fr_v hF (by decide)).trans h18) ?_
      refine b_put (a := 63) (v := vA 76) dX5_goOn_89 pwX5_52 (fun h => nomatch h) (by decide) rfl (by decide) rfl rfl (fit_arr (Nat.le_of_ble_eq_true rfl)) ?_
      show Aj γ mX5_goOn d 0 0 Post 92 [(3, vA 77), (0, vA 63), (1, vI ((a : Nat) : Int)), (2, vI ((b : Nat) : Int))] [] (mk (up2 h1 63 17 ((76 : Nat) : Int)) τ)
      refine a_aload_n (j := 1) dX5_goOn_92 rfl rfl (Nat.le_of_ble_eq_true rfl) ?_
      refine a_aload_n (j := 0) dX5_goOn_93 rfl rfl (Nat.le_of_ble_eq_true rfl) ?_
      refine b_put (a := 63) (v := vA 77) dX5_goOn_94 pwX5_56 (fun h => nomatch h) (by decide) rfl (by decide) rfl rfl (fit_arr (Nat.le_of_ble_eq_true rfl)) ?_
      show Aj γ mX5_goOn d 0 0 Post 97 [(3, vA 77), (0, vA 63), (1, vI ((a : Nat) : Int)), (2, vI ((b : Nat) : Int))] [] (mk (up2 (up2 h1 63 17 ((76 : Nat) : Int)) 63 18 ((77 : Nat) : Int)) τ)
      exact a_vret dX5_goOn_97 rfl (kQ _ (Fr_u (by decide) (Fr_u (by decide) (Fr_m (by decide) hF))) (fun k a b => (up2_ne (by omega)).trans ((up2_ne (by omega)).trans (Fr_v hF (by decide)))) (Or.inl ⟨(up2_ne (by decide)).trans up2_at, up2_at, fun s hs => (up2_ne (by omega)).trans ((up2_ne (by omega)).trans (iv s (by omega)))⟩))
    · refine a_lconst (z := 0) dX5_goOn_7 ⟨by decide, by decide, by decide⟩ ?_
      refine a_lstore (lv' := [(4, vL 0), (3, vI ((i : Nat) : Int)), (0, vA 63), (1, vI ((a : Nat) : Int)), (2, vI ((b : Nat) : Int))]) dX5_goOn_8 (by decide) rfl ?_
      refine a_iconst dX5_goOn_10 ⟨by decide, by decide⟩ ?_
      refine a_istore (lv' := [(6, vI 0), (4, vL 0), (3, vI ((i : Nat) : Int)), (0, vA 63), (1, vI ((a : Nat) : Int)), (2, vI ((b : Nat) : Int))]) dX5_goOn_11 (by decide) rfl ?_
      refine a_lv (lv' := [(6, vI ((0 : Nat) : Int)), (4, vL 0), (3, vI ((i : Nat) : Int)), (0, vA 63), (1, vI ((a : Nat) : Int)), (2, vI ((b : Nat) : Int))]) (by intro q hq; simp only [List.mem_cons, List.not_mem_nil, or_false] at hq ⊢; rcases hq with rfl | rfl | rfl | rfl | rfl | rfl <;> simp) (l_goI77 (h := h1) (r := i) hd hT (TT_fr (by decide) hF hTT) ha hb hWb ((Fr_v hF (by decide)).trans h17) ((Fr_v hF (by decide)).trans h18) (fun s hs => (Fr_v hF (by decide)).trans (hW s hs)) (by omega) ?_ 5 0 (by omega) (by omega))
      intro x7
      have hs7 := sm4_rng (f := wgT T a b W i) (B := 2560000000000) (fun s hs => wg_rng hWb hs) (i := 4) (by omega)
      have qb9i := qb.2.2.2.2.2.2.1 i (by omega)
      have hpr := mul_rng hs7 qb9i.1
      refine a_aload_n (j := 3) dX5_goOn_53 rfl rfl (Nat.le_of_ble_eq_true rfl) ?_
      refine b_get (a := 63) (z := ((76 : Nat) : Int)) (t := 2) dX5_goOn_54 fwX5_56 (by decide) rfl (by decide) rfl rfl ((Fr_v hF (by decide)).trans h18) ?_
      refine a_iload_n (j := 2) dX5_goOn_57 rfl rfl ?_
      refine a_lload (j := 1) dX5_goOn_58 rfl ?_
      refine a_aload_n (j := 3) dX5_goOn_60 rfl rfl (Nat.le_of_ble_eq_true rfl) ?_
      refine b_getp (a := 63) (p := 71) dX5_goOn_61 fwX5_37 (by decide) rfl (by decide) rfl rfl ?_
      refine a_iload_n (j := 5) dX5_goOn_64 rfl rfl ?_
      refine a_iconst dX5_goOn_65 ⟨by decide, by decide⟩ ?_
      refine a_imul (z := (((b : Nat) : Int) * 4)) dX5_goOn_66 (w_ok (by omega) (by omega)) ?_
      refine a_iload_n (j := 2) dX5_goOn_67 rfl rfl ?_
      refine a_iadd (z := ((((b : Nat) : Int) * 4) + ((i : Nat) : Int))) dX5_goOn_68 (w_ok (by omega) (by omega)) ?_
      refine b_iaload (a := 71) (z := T 8 (4 * b + i)) (4 * b + i) dX5_goOn_69 (by decide) rfl (by omega) (by omega) (sp_nil rfl _) ((Fr_v hF (by decide)).trans ((hTT.2.2.1 b (by omega)).2.2.2.2.2.2 i (by omega)).1) (fun r69_2 => ?_)
      refine a_i2l dX5_goOn_70 ?_
      refine a_lmul (z := ((sm (wgT T a b W i) 4) * (T 8 (4 * b + i)))) dX5_goOn_71 (w_okL (by omega) (by omega)) ?_
      refine b_lastore (a := 76) i dX5_goOn_72 (by decide) rfl rfl (by omega) (sp_nil rfl _) ?_
      refine a_iinc (j := 2) (z' := ((i + 1 : Nat) : Int)) (lv' := [(3, vI ((i + 1 : Nat) : Int)), (6, vI x7), (4, vL (sm (wgT T a b W i) 4)), (0, vA 63), (1, vI ((a : Nat) : Int)), (2, vI ((b : Nat) : Int))]) dX5_goOn_73 rfl (w_okN (by omega) (by omega) (by omega)) (by decide) rfl ?_
      refine a_goto (tgt := 2) dX5_goOn_76 (by decide) ?_
      refine a_lv (lv' := [(3, vI (((i + 1) : Nat) : Int)), (0, vA 63), (1, vI ((a : Nat) : Int)), (2, vI ((b : Nat) : Int))]) (by intro q hq; simp only [List.mem_cons, List.not_mem_nil, or_false] at hq ⊢; rcases hq with rfl | rfl | rfl | rfl <;> simp) (ih (i + 1) (up2 h1 76 i ((sm (wgT T a b W i) 4) * (T 8 (4 * b + i))))  (by omega) (by omega) (Fr_u (by decide) (Fr_m (by decide) hF)) (fun s hs => by
          by_cases c : s = i
          · subst c; exact up2_at
          · exact (up2_ne (by omega)).trans (iv s (by omega))))
theorem c_X5_goOn {γ : GT} {d : Nat} {T : Nat → Nat → Int} {a b : Nat} {W : Nat → Int} {h : Nat → Nat → Int} {τ : List AC} {Post : Option AV → List AC → Prop} (hd : 2 ≤ d) (hT : tOK T) (hTT : TT h T) (ha : (a : Int) < T 0 2) (hb : (b : Int) < T 0 2) (hWb : ∀ s, s < 4 → 0 ≤ W s ∧ W s ≤ 2560000000000) (hY : WY h W) (kQ : ∀ h', Fr [63, 76, 77] h h' → K18 h h' → WY h' (wyS T a b W) → Post none (mk h' τ)) : Cj γ mX5_goOn d 0 0 [vA 63, vI ((a : Nat) : Int), vI ((b : Nat) : Int)] (mk h τ) Post := by
  refine c_of (by decide) (Nat.le_of_ble_eq_true rfl) ?_
  show Aj γ mX5_goOn d 0 0 Post 0 [(0, vA 63), (1, vI ((a : Nat) : Int)), (2, vI ((b : Nat) : Int))] [] (mk h τ)
  refine a_iconst dX5_goOn_0 ⟨by decide, by decide⟩ ?_
  refine a_istore_n (lv' := [(3, vI 0), (0, vA 63), (1, vI ((a : Nat) : Int)), (2, vI ((b : Nat) : Int))]) dX5_goOn_1 rfl (by decide) rfl ?_
  rcases hY with ⟨y1, y2, y3⟩ | ⟨y1, y2, y3⟩
  · exact a_lv (lv' := [(3, vI ((0 : Nat) : Int)), (0, vA 63), (1, vI ((a : Nat) : Int)), (2, vI ((b : Nat) : Int))]) (by intro q hq; simp only [List.mem_cons, List.not_mem_nil, or_false] at hq ⊢; rcases hq with rfl | rfl | rfl | rfl <;> simp) (l_goO76 (h := h) (W := W) hd hT hTT ha hb hWb y1 y2 y3 kQ 5 0 h (by omega) (by omega) Fr_r (fun s hs => by omega))
  · exact a_lv (lv' := [(3, vI ((0 : Nat) : Int)), (0, vA 63), (1, vI ((a : Nat) : Int)), (2, vI ((b : Nat) : Int))]) (by intro q hq; simp only [List.mem_cons, List.not_mem_nil, or_false] at hq ⊢; rcases hq with rfl | rfl | rfl | rfl <;> simp) (l_goO77 (h := h) (W := W) hd hT hTT ha hb hWb y1 y2 y3 kQ 5 0 h (by omega) (by omega) Fr_r (fun s hs => by omega))
set_option maxHeartbeats 8000000 in
theorem l_plF76_0 {γ : GT} {d : Nat} {T : Nat → Nat → Int} {a : Nat} {W : Nat → Int} {h : Nat → Nat → Int} {τ : List AC} {Post : Option AV → List AC → Prop} (hd : 2 ≤ d) (hT : tOK T) (hTT : TT h T) (ha : (a : Int) < T 0 2) (h17 : h 63 17 = ((76 : Nat) : Int)) (hW : ∀ s, s < 4 → h 76 s = W s) (hWb : ∀ s, s < 4 → 0 ≤ W s ∧ W s ≤ 1024000000000000) (kQ : Post (some (vL (sm W 4))) (mk h τ)) :
    ∀ (f i : Nat), i ≤ 4 → 4 < i + f → Aj γ mX5_planOf d 0 0 Post 85 [(6, vI ((i : Nat) : Int)), (4, vL (sm W i)), (3, vI ((a : Nat) : Int)), (0, vA 63), (1, vA 1), (2, vI 0)] [] (mk h τ) := by
  intro f
  induction f with
  | zero => intro i h1 h2; omega
  | succ f ih =>
    intro i h1 h2
    have h2_ := hT.2.2.1
    have qa := hT.2.2.2.2.2 a
    have qa3 := qa.2.1
    have qa4 := qa.2.2.1
    have qa5 := qa.2.2.2.1
    have qa6 := qa.2.2.2.2.1
    have qa7 := qa.2.2.2.2.2.1
    have qa8 := (qa.2.2.2.2.2.2.2 (by omega))
    have qaw := hT.2.2.2.2.1 (Int.toNat (T 3 a))
    have hsm := sm4_rng (f := W) (B := 1024000000000000) (fun s hs => hWb s hs) (i := i) (by omega)
    refine a_iload (j := 0) dX5_planOf_85 rfl ?_
    refine a_iconst dX5_planOf_87 ⟨by decide, by decide⟩ ?_
    refine a_icmp_ge (tgt := 132) dX5_planOf_88 (by decide) (fun c88_1 => ?_) (fun c88_1 => ?_)
    · refine a_lload (j := 1) dX5_planOf_132 rfl ?_
      exact a_lret dX5_planOf_134 rfl (by obtain rfl : i = 4 := (by omega); exact kQ)
    · have hWi := hWb i (by omega)
      have qa9i := qa.2.2.2.2.2.2.1 i (by omega)
      refine a_lload (j := 1) dX5_planOf_91 rfl ?_
      refine a_iload_n (j := 5) dX5_planOf_93 rfl rfl ?_
      refine a_if_eq (tgt := 116) dX5_planOf_94 (by decide) (fun _ => ?_) (fun c => absurd c (by decide))
      refine a_aload_n (j := 3) dX5_planOf_116 rfl rfl (Nat.le_of_ble_eq_true rfl) ?_
      refine b_get (a := 63) (z := ((76 : Nat) : Int)) (t := 2) dX5_planOf_117 fwX5_52 (by decide) rfl (by decide) rfl rfl h17 ?_
      refine a_iload (j := 0) dX5_planOf_120 rfl ?_
      refine b_laload (a := 76) (z := W i) i dX5_planOf_122 (by decide) rfl rfl (by omega) (sp_nil rfl _) (hW i (by omega)) (fun r122_2 => ?_)
      refine a_ladd (z := ((sm W i) + (W i))) dX5_planOf_123 (w_okL (by omega) (by omega)) ?_
      refine a_lstore (lv' := [(4, vL ((sm W i) + (W i))), (6, vI ((i : Nat) : Int)), (3, vI ((a : Nat) : Int)), (0, vA 63), (1, vA 1), (2, vI 0)]) dX5_planOf_124 (by decide) rfl ?_
      refine a_iinc (j := 1) (z' := ((i + 1 : Nat) : Int)) (lv' := [(6, vI ((i + 1 : Nat) : Int)), (4, vL ((sm W i) + (W i))), (3, vI ((a : Nat) : Int)), (0, vA 63), (1, vA 1), (2, vI 0)]) dX5_planOf_126 rfl (w_okN (by omega) (by omega) (by omega)) (by decide) rfl ?_
      refine a_goto (tgt := 85) dX5_planOf_129 (by decide) ?_
      have e : sm W (i + 1) = ((sm W i) + (W i)) := rfl
      have q := ih (i + 1) (by omega) (by omega)
      rw [e] at q
      exact a_lv (lv' := [(6, vI (((i + 1) : Nat) : Int)), (4, vL ((sm W i) + (W i))), (3, vI ((a : Nat) : Int)), (0, vA 63), (1, vA 1), (2, vI 0)]) (by intro q hq; simp only [List.mem_cons, List.not_mem_nil, or_false] at hq ⊢; rcases hq with rfl | rfl | rfl | rfl | rfl | rfl <;> simp) q
set_option maxHeartbeats 8000000 in
theorem l_plF76_1 {γ : GT} {d : Nat} {T : Nat → Nat → Int} {a : Nat} {W : Nat → Int} {h : Nat → Nat → Int} {τ : List AC} {Post : Option AV → List AC → Prop} (hd : 2 ≤ d) (hT : tOK T) (hTT : TT h T) (ha : (a : Int) < T 0 2) (h17 : h 63 17 = ((76 : Nat) : Int)) (hW : ∀ s, s < 4 → h 76 s = W s) (hWb : ∀ s, s < 4 → 0 ≤ W s ∧ W s ≤ 1024000000000000) (kQ : Post (some (vL (sm (fun s => W s * (T 9 (4 * a + s) + T 4 a)) 4))) (mk h τ)) :
    ∀ (f i : Nat), i ≤ 4 → 4 < i + f → Aj γ mX5_planOf d 0 0 Post 85 [(6, vI ((i : Nat) : Int)), (4, vL (sm (fun s => W s * (T 9 (4 * a + s) + T 4 a)) i)), (3, vI ((a : Nat) : Int)), (0, vA 63), (1, vA 1), (2, vI 1)] [] (mk h τ) := by
  intro f
  induction f with
  | zero => intro i h1 h2; omega
  | succ f ih =>
    intro i h1 h2
    have h2_ := hT.2.2.1
    have qa := hT.2.2.2.2.2 a
    have qa3 := qa.2.1
    have qa4 := qa.2.2.1
    have qa5 := qa.2.2.2.1
    have qa6 := qa.2.2.2.2.1
    have qa7 := qa.2.2.2.2.2.1
    have qa8 := (qa.2.2.2.2.2.2.2 (by omega))
    have qaw := hT.2.2.2.2.1 (Int.toNat (T 3 a))
    have hsm := sm4_rng (f := (fun s => W s * (T 9 (4 * a + s) + T 4 a))) (B := 1024000000000000 * 2201) (fun s hs => mul_rng (hWb s hs) (by have q9 := qa.2.2.2.2.2.2.1 s hs; omega)) (i := i) (by omega)
    refine a_iload (j := 0) dX5_planOf_85 rfl ?_
    refine a_iconst dX5_planOf_87 ⟨by decide, by decide⟩ ?_
    refine a_icmp_ge (tgt := 132) dX5_planOf_88 (by decide) (fun c88_1 => ?_) (fun c88_1 => ?_)
    · refine a_lload (j := 1) dX5_planOf_132 rfl ?_
      exact a_lret dX5_planOf_134 rfl (by obtain rfl : i = 4 := (by omega); exact kQ)
    · have hWi := hWb i (by omega)
      have qa9i := qa.2.2.2.2.2.2.1 i (by omega)
      have hpr := mul_rng hWi (show 0 ≤ T 9 (4 * a + i) + T 4 a ∧ T 9 (4 * a + i) + T 4 a ≤ 2201 by omega)
      have hsm1 : 0 ≤ sm (fun s => W s * (T 9 (4 * a + s) + T 4 a)) i + W i * (T 9 (4 * a + i) + T 4 a) ∧ sm (fun s => W s * (T 9 (4 * a + s) + T 4 a)) i + W i * (T 9 (4 * a + i) + T 4 a) ≤ 4 * (1024000000000000 * 2201) := sm4_rng (f := (fun s => W s * (T 9 (4 * a + s) + T 4 a))) (B := 1024000000000000 * 2201) (fun s hs => mul_rng (hWb s hs) (by have q9 := qa.2.2.2.2.2.2.1 s hs; omega)) (i := i + 1) (by omega)
      refine a_lload (j := 1) dX5_planOf_91 rfl ?_
      refine a_iload_n (j := 5) dX5_planOf_93 rfl rfl ?_
      refine a_if_eq (tgt := 116) dX5_planOf_94 (by decide) (fun c => absurd c (by decide)) (fun _ => ?_)
      refine a_aload_n (j := 3) dX5_planOf_97 rfl rfl (Nat.le_of_ble_eq_true rfl) ?_
      refine b_get (a := 63) (z := ((76 : Nat) : Int)) (t := 2) dX5_planOf_98 fwX5_52 (by decide) rfl (by decide) rfl rfl h17 ?_
      refine a_iload (j := 0) dX5_planOf_101 rfl ?_
      refine b_laload (a := 76) (z := W i) i dX5_planOf_103 (by decide) rfl rfl (by omega) (sp_nil rfl _) (hW i (by omega)) (fun r103_2 => ?_)
      refine a_aload_n (j := 3) dX5_planOf_104 rfl rfl (Nat.le_of_ble_eq_true rfl) ?_
      refine a_iload_n (j := 2) dX5_planOf_105 rfl rfl ?_
      refine a_iload (j := 0) dX5_planOf_106 rfl ?_
      refine b_callV (d' := d - 1) (mc' := 0) (ms' := 0) (mc1 := 0) (ms1 := 0) (st := [vL (W i), vL (sm (fun s => W s * (T 9 (4 * a + s) + T 4 a)) i)]) (b := 63) [vI ((a : Nat) : Int), vI ((i : Nat) : Int)] dX5_planOf_108 mwX5_there lkX5_164 (by decide) rfl rc_X5 rfl (Nat.le_of_ble_eq_true rfl) (by omega) rfl rfl (c_X5_there (v1 := (T 9 (4 * a + i))) (v2 := (T 4 a)) (by omega)  ((congrArg (h 72) (show (Int.toNat ((((a : Nat) : Int) * 4) + ((i : Nat) : Int))) = (4 * a + i) by omega)).trans ((hTT.2.2.1 a (by omega)).2.2.2.2.2.2 i (by omega)).2) ((congrArg (h 67) (show (Int.toNat ((a : Nat) : Int)) = a by omega)).trans (hTT.2.2.1 a (by omega)).2.2.1) (show 0 ≤ ((a : Nat) : Int) ∧ ((a : Nat) : Int) ≤ 11 by omega) (show 0 ≤ ((i : Nat) : Int) ∧ ((i : Nat) : Int) ≤ 3 by omega) (show 0 ≤ (T 9 (4 * a + i)) ∧ (T 9 (4 * a + i)) ≤ 3000 by omega) (show 1 ≤ (T 4 a) ∧ (T 4 a) ≤ 600 by omega) ?_)
      show Aj γ mX5_planOf d 0 0 Post 111 [(6, vI ((i : Nat) : Int)), (4, vL (sm (fun s => W s * (T 9 (4 * a + s) + T 4 a)) i)), (3, vI ((a : Nat) : Int)), (0, vA 63), (1, vA 1), (2, vI 1)] [vI ((T 9 (4 * a + i)) + (T 4 a)), vL (W i), vL (sm (fun s => W s * (T 9 (4 * a + s) + T 4 a)) i)] (mk h τ)
      refine a_i2l dX5_planOf_111 ?_
      refine a_lmul (z := ((W i) * ((T 9 (4 * a + i)) + (T 4 a)))) dX5_planOf_112 (w_okL (by omega) (by omega)) ?_
      refine a_goto (tgt := 123) dX5_planOf_113 (by decide) ?_
      refine a_ladd (z := ((sm (fun s => W s * (T 9 (4 * a + s) + T 4 a)) i) + ((W i) * ((T 9 (4 * a + i)) + (T 4 a))))) dX5_planOf_123 (w_okL (by omega) (by omega)) ?_
      refine a_lstore (lv' := [(4, vL ((sm (fun s => W s * (T 9 (4 * a + s) + T 4 a)) i) + ((W i) * ((T 9 (4 * a + i)) + (T 4 a))))), (6, vI ((i : Nat) : Int)), (3, vI ((a : Nat) : Int)), (0, vA 63), (1, vA 1), (2, vI 1)]) dX5_planOf_124 (by decide) rfl ?_
      refine a_iinc (j := 1) (z' := ((i + 1 : Nat) : Int)) (lv' := [(6, vI ((i + 1 : Nat) : Int)), (4, vL ((sm (fun s => W s * (T 9 (4 * a + s) + T 4 a)) i) + ((W i) * ((T 9 (4 * a + i)) + (T 4 a))))), (3, vI ((a : Nat) : Int)), (0, vA 63), (1, vA 1), (2, vI 1)]) dX5_planOf_126 rfl (w_okN (by omega) (by omega) (by omega)) (by decide) rfl ?_
      refine a_goto (tgt := 85) dX5_planOf_129 (by decide) ?_
      have e : sm (fun s => W s * (T 9 (4 * a + s) + T 4 a)) (i + 1) = ((sm (fun s => W s * (T 9 (4 * a + s) + T 4 a)) i) + ((W i) * ((T 9 (4 * a + i)) + (T 4 a)))) := rfl
      have q := ih (i + 1) (by omega) (by omega)
      rw [e] at q
      exact a_lv (lv' := [(6, vI (((i + 1) : Nat) : Int)), (4, vL ((sm (fun s => W s * (T 9 (4 * a + s) + T 4 a)) i) + ((W i) * ((T 9 (4 * a + i)) + (T 4 a))))), (3, vI ((a : Nat) : Int)), (0, vA 63), (1, vA 1), (2, vI 1)]) (by intro q hq; simp only [List.mem_cons, List.not_mem_nil, or_false] at hq ⊢; rcases hq with rfl | rfl | rfl | rfl | rfl | rfl <;> simp) q
set_option maxHeartbeats 8000000 in
theorem l_plF77_0 {γ : GT} {d : Nat} {T : Nat → Nat → Int} {a : Nat} {W : Nat → Int} {h : Nat → Nat → Int} {τ : List AC} {Post : Option AV → List AC → Prop} (hd : 2 ≤ d) (hT : tOK T) (hTT : TT h T) (ha : (a : Int) < T 0 2) (h17 : h 63 17 = ((77 : Nat) : Int)) (hW : ∀ s, s < 4 → h 77 s = W s) (hWb : ∀ s, s < 4 → 0 ≤ W s ∧ W s ≤ 1024000000000000) (kQ : Post (some (vL (sm W 4))) (mk h τ)) :
    ∀ (f i : Nat), i ≤ 4 → 4 < i + f → Aj γ mX5_planOf d 0 0 Post 85 [(6, vI ((i : Nat) : Int)), (4, vL (sm W i)), (3, vI ((a : Nat) : Int)), (0, vA 63), (1, vA 1), (2, vI 0)] [] (mk h τ) := by
  intro f
  induction f with
  | zero => intro i h1 h2; omega
  | succ f ih =>
    intro i h1 h2
    have h2_ := hT.2.2.1
    have qa := hT.2.2.2.2.2 a
    have qa3 := qa.2.1
    have qa4 := qa.2.2.1
    have qa5 := qa.2.2.2.1
    have qa6 := qa.2.2.2.2.1
    have qa7 := qa.2.2.2.2.2.1
    have qa8 := (qa.2.2.2.2.2.2.2 (by omega))
    have qaw := hT.2.2.2.2.1 (Int.toNat (T 3 a))
    have hsm := sm4_rng (f := W) (B := 1024000000000000) (fun s hs => hWb s hs) (i := i) (by omega)
    refine a_iload (j := 0) dX5_planOf_85 rfl ?_
    refine a_iconst dX5_planOf_87 ⟨by decide, by decide⟩ ?_
    refine a_icmp_ge (tgt := 132) dX5_planOf_88 (by decide) (fun c88_1 => ?_) (fun c88_1 => ?_)
    · refine a_lload (j := 1) dX5_planOf_132 rfl ?_
      exact a_lret dX5_planOf_134 rfl (by obtain rfl : i = 4 := (by omega); exact kQ)
    · have hWi := hWb i (by omega)
      have qa9i := qa.2.2.2.2.2.2.1 i (by omega)
      refine a_lload (j := 1) dX5_planOf_91 rfl ?_
      refine a_iload_n (j := 5) dX5_planOf_93 rfl rfl ?_
      refine a_if_eq (tgt := 116) dX5_planOf_94 (by decide) (fun _ => ?_) (fun c => absurd c (by decide))
      refine a_aload_n (j := 3) dX5_planOf_116 rfl rfl (Nat.le_of_ble_eq_true rfl) ?_
      refine b_get (a := 63) (z := ((77 : Nat) : Int)) (t := 2) dX5_planOf_117 fwX5_52 (by decide) rfl (by decide) rfl rfl h17 ?_
      refine a_iload (j := 0) dX5_planOf_120 rfl ?_
      refine b_laload (a := 77) (z := W i) i dX5_planOf_122 (by decide) rfl rfl (by omega) (sp_nil rfl _) (hW i (by omega)) (fun r122_2 => ?_)
      refine a_ladd (z := ((sm W i) + (W i))) dX5_planOf_123 (w_okL (by omega) (by omega)) ?_
      refine a_lstore (lv' := [(4, vL ((sm W i) + (W i))), (6, vI ((i : Nat) : Int)), (3, vI ((a : Nat) : Int)), (0, vA 63), (1, vA 1), (2, vI 0)]) dX5_planOf_124 (by decide) rfl ?_
      refine a_iinc (j := 1) (z' := ((i + 1 : Nat) : Int)) (lv' := [(6, vI ((i + 1 : Nat) : Int)), (4, vL ((sm W i) + (W i))), (3, vI ((a : Nat) : Int)), (0, vA 63), (1, vA 1), (2, vI 0)]) dX5_planOf_126 rfl (w_okN (by omega) (by omega) (by omega)) (by decide) rfl ?_
      refine a_goto (tgt := 85) dX5_planOf_129 (by decide) ?_
      have e : sm W (i + 1) = ((sm W i) + (W i)) := rfl
      have q := ih (i + 1) (by omega) (by omega)
      rw [e] at q
      exact a_lv (lv' := [(6, vI (((i + 1) : Nat) : Int)), (4, vL ((sm W i) + (W i))), (3, vI ((a : Nat) : Int)), (0, vA 63), (1, vA 1), (2, vI 0)]) (by intro q hq; simp only [List.mem_cons, List.not_mem_nil, or_false] at hq ⊢; rcases hq with rfl | rfl | rfl | rfl | rfl | rfl <;> simp) q
set_option maxHeartbeats 8000000 in
theorem l_plF77_1 {γ : GT} {d : Nat} {T : Nat → Nat → Int} {a : Nat} {W : Nat → Int} {h : Nat → Nat → Int} {τ : List AC} {Post : Option AV → List AC → Prop} (hd : 2 ≤ d) (hT : tOK T) (hTT : TT h T) (ha : (a : Int) < T 0 2) (h17 : h 63 17 = ((77 : Nat) : Int)) (hW : ∀ s, s < 4 → h 77 s = W s) (hWb : ∀ s, s < 4 → 0 ≤ W s ∧ W s ≤ 1024000000000000) (kQ : Post (some (vL (sm (fun s => W s * (T 9 (4 * a + s) + T 4 a)) 4))) (mk h τ)) :
    ∀ (f i : Nat), i ≤ 4 → 4 < i + f → Aj γ mX5_planOf d 0 0 Post 85 [(6, vI ((i : Nat) : Int)), (4, vL (sm (fun s => W s * (T 9 (4 * a + s) + T 4 a)) i)), (3, vI ((a : Nat) : Int)), (0, vA 63), (1, vA 1), (2, vI 1)] [] (mk h τ) := by
  intro f
  induction f with
  | zero => intro i h1 h2; omega
  | succ f ih =>
    intro i h1 h2
    have h2_ := hT.2.2.1
    have qa := hT.2.2.2.2.2 a
    have qa3 := qa.2.1
    have qa4 := qa.2.2.1
    have qa5 := qa.2.2.2.1
    have qa6 := qa.2.2.2.2.1
    have qa7 := qa.2.2.2.2.2.1
    have qa8 := (qa.2.2.2.2.2.2.2 (by omega))
    have qaw := hT.2.2.2.2.1 (Int.toNat (T 3 a))
    have hsm := sm4_rng (f := (fun s => W s * (T 9 (4 * a + s) + T 4 a))) (B := 1024000000000000 * 2201) (fun s hs => mul_rng (hWb s hs) (by have q9 := qa.2.2.2.2.2.2.1 s hs; omega)) (i := i) (by omega)
    refine a_iload (j := 0) dX5_planOf_85 rfl ?_
    refine a_iconst dX5_planOf_87 ⟨by decide, by decide⟩ ?_
    refine a_icmp_ge (tgt := 132) dX5_planOf_88 (by decide) (fun c88_1 => ?_) (fun c88_1 => ?_)
    · refine a_lload (j := 1) dX5_planOf_132 rfl ?_
      exact a_lret dX5_planOf_134 rfl (by obtain rfl : i = 4 := (by omega); exact kQ)
    · have hWi := hWb i (by omega)
      have qa9i := qa.2.2.2.2.2.2.1 i (by omega)
      have hpr := mul_rng hWi (show 0 ≤ T 9 (4 * a + i) + T 4 a ∧ T 9 (4 * a + i) + T 4 a ≤ 2201 by omega)
      have hsm1 : 0 ≤ sm (fun s => W s * (T 9 (4 * a + s) + T 4 a)) i + W i * (T 9 (4 * a + i) + T 4 a) ∧ sm (fun s => W s * (T 9 (4 * a + s) + T 4 a)) i + W i * (T 9 (4 * a + i) + T 4 a) ≤ 4 * (1024000000000000 * 2201) := sm4_rng (f := (fun s => W s * (T 9 (4 * a + s) + T 4 a))) (B := 1024000000000000 * 2201) (fun s hs => mul_rng (hWb s hs) (by have q9 := qa.2.2.2.2.2.2.1 s hs; omega)) (i := i + 1) (by omega)
      refine a_lload (j := 1) dX5_planOf_91 rfl ?_
      refine a_iload_n (j := 5) dX5_planOf_93 rfl rfl ?_
      refine a_if_eq (tgt := 116) dX5_planOf_94 (by decide) (fun c => absurd c (by decide)) (fun _ => ?_)
      refine a_aload_n (j := 3) dX5_planOf_97 rfl rfl (Nat.le_of_ble_eq_true rfl) ?_
      refine b_get (a := 63) (z := ((77 : Nat) : Int)) (t := 2) dX5_planOf_98 fwX5_52 (by decide) rfl (by decide) rfl rfl h17 ?_
      refine a_iload (j := 0) dX5_planOf_101 rfl ?_
      refine b_laload (a := 77) (z := W i) i dX5_planOf_103 (by decide) rfl rfl (by omega) (sp_nil rfl _) (hW i (by omega)) (fun r103_2 => ?_)
      refine a_aload_n (j := 3) dX5_planOf_104 rfl rfl (Nat.le_of_ble_eq_true rfl) ?_
      refine a_iload_n (j := 2) dX5_planOf_105 rfl rfl ?_
      refine a_iload (j := 0) dX5_planOf_106 rfl ?_
      refine b_callV (d' := d - 1) (mc' := 0) (ms' := 0) (mc1 := 0) (ms1 := 0) (st := [vL (W i), vL (sm (fun s => W s * (T 9 (4 * a + s) + T 4 a)) i)]) (b := 63) [vI ((a : Nat) : Int), vI ((i : Nat) : Int)] dX5_planOf_108 mwX5_there lkX5_164 (by decide) rfl rc_X5 rfl (Nat.le_of_ble_eq_true rfl) (by omega) rfl rfl (c_X5_there (v1 := (T 9 (4 * a + i))) (v2 := (T 4 a)) (by omega)  ((congrArg (h 72) (show (Int.toNat ((((a : Nat) : Int) * 4) + ((i : Nat) : Int))) = (4 * a + i) by omega)).trans ((hTT.2.2.1 a (by omega)).2.2.2.2.2.2 i (by omega)).2) ((congrArg (h 67) (show (Int.toNat ((a : Nat) : Int)) = a by omega)).trans (hTT.2.2.1 a (by omega)).2.2.1) (show 0 ≤ ((a : Nat) : Int) ∧ ((a : Nat) : Int) ≤ 11 by omega) (show 0 ≤ ((i : Nat) : Int) ∧ ((i : Nat) : Int) ≤ 3 by omega) (show 0 ≤ (T 9 (4 * a + i)) ∧ (T 9 (4 * a + i)) ≤ 3000 by omega) (show 1 ≤ (T 4 a) ∧ (T 4 a) ≤ 600 by omega) ?_)
      show Aj γ mX5_planOf d 0 0 Post 111 [(6, vI ((i : Nat) : Int)), (4, vL (sm (fun s => W s * (T 9 (4 * a + s) + T 4 a)) i)), (3, vI ((a : Nat) : Int)), (0, vA 63), (1, vA 1), (2, vI 1)] [vI ((T 9 (4 * a + i)) + (T 4 a)), vL (W i), vL (sm (fun s => W s * (T 9 (4 * a + s) + T 4 a)) i)] (mk h τ)
      refine a_i2l dX5_planOf_111 ?_
      refine a_lmul (z := ((W i) * ((T 9 (4 * a + i)) + (T 4 a)))) dX5_planOf_112 (w_okL (by omega) (by omega)) ?_
      refine a_goto (tgt := 123) dX5_planOf_113 (by decide) ?_
      refine a_ladd (z := ((sm (fun s => W s * (T 9 (4 * a + s) + T 4 a)) i) + ((W i) * ((T 9 (4 * a + i)) + (T 4 a))))) dX5_planOf_123 (w_okL (by omega) (by omega)) ?_
      refine a_lstore (lv' := [(4, vL ((sm (fun s => W s * (T 9 (4 * a + s) + T 4 a)) i) + ((W i) * ((T 9 (4 * a + i)) + (T 4 a))))), (6, vI ((i : Nat) : Int)), (3, vI ((a : Nat) : Int)), (0, vA 63), (1, vA 1), (2, vI 1)]) dX5_planOf_124 (by decide) rfl ?_
      refine a_iinc (j := 1) (z' := ((i + 1 : Nat) : Int)) (lv' := [(6, vI ((i + 1 : Nat) : Int)), (4, vL ((sm (fun s => W s * (T 9 (4 * a + s) + T 4 a)) i) + ((W i) * ((T 9 (4 * a + i)) + (T 4 a))))), (3, vI ((a : Nat) : Int)), (0, vA 63), (1, vA 1), (2, vI 1)]) dX5_planOf_126 rfl (w_okN (by omega) (by omega) (by omega)) (by decide) rfl ?_
      refine a_goto (tgt := 85) dX5_planOf_129 (by decide) ?_
      have e : sm (fun s => W s * (T 9 (4 * a + s) + T 4 a)) (i + 1) = ((sm (fun s => W s * (T 9 (4 * a + s) + T 4 a)) i) + ((W i) * ((T 9 (4 * a + i)) + (T 4 a)))) := rfl
      have q := ih (i + 1) (by omega) (by omega)
      rw [e] at q
      exact a_lv (lv' := [(6, vI (((i + 1) : Nat) : Int)), (4, vL ((sm (fun s => W s * (T 9 (4 * a + s) + T 4 a)) i) + ((W i) * ((T 9 (4 * a + i)) + (T 4 a))))), (3, vI ((a : Nat) : Int)), (0, vA 63), (1, vA 1), (2, vI 1)]) (by intro q hq; simp only [List.mem_cons, List.not_mem_nil, or_false] at hq ⊢; rcases hq with rfl | rfl | rfl | rfl | rfl | rfl <;> simp) q
set_option maxHeartbeats 8000000 in
theorem l_plM {γ : GT} {d : Nat} {T : Nat → Nat → Int} {pl : Nat → Nat} {n : Nat} {q : Int} {b : Int} {h : Nat → Nat → Int} {τ : List AC} {Post : Option AV → List AC → Prop} (hd : 3 ≤ d) (hT : tOK T) (hTT : TT h T) (hn : h 1 7 = ((n : Nat) : Int)) (hn6 : 1 ≤ n ∧ n ≤ 6) (hpl : ∀ k : Nat, k < n → h 5 k = ((pl k : Nat) : Int) ∧ ((pl k : Nat) : Int) < T 0 2) (kE : ∀ h', Fr [63, 76, 77] h h' → K18 h h' → WY h' (wyN T pl (n - 1)) → Aj γ mX5_planOf d 0 0 Post 79 [(4, vI ((n : Nat) : Int)), (3, vI ((pl (n - 1) : Nat) : Int)), (0, vA 63), (1, vA 1), (2, vI b)] [] (mk h' τ)) :
    ∀ (f i : Nat) (h1 : Nat → Nat → Int), i ≤ n → n < i + f → Fr [63, 76, 77] h h1 → (K18 h h1) → (WY h1 (wyN T pl (i - 1))) → (1 ≤ i) → Aj γ mX5_planOf d 0 0 Post 44 [(4, vI ((i : Nat) : Int)), (3, vI (((pl (i - 1)) : Nat) : Int)), (0, vA 63), (1, vA 1), (2, vI b)] [] (mk h1 τ) := by
  intro f
  induction f with
  | zero => intro i h1  h1_ h2_; omega
  | succ f ih =>
    intro i h1  h1_ h2_ hF ik iy i1
    have h2_ := hT.2.2.1
    refine a_iload (j := 0) dX5_planOf_44 rfl ?_
    refine a_aload_n (j := 3) dX5_planOf_46 rfl rfl (Nat.le_of_ble_eq_true rfl) ?_
    refine b_get (a := 1) (z := ((n : Nat) : Int)) (t := 0) dX5_planOf_47 fwX5_178 (by decide) rfl (by decide) rfl rfl ((Fr_v hF (by decide)).trans hn) ?_
    refine a_icmp_ge (tgt := 79) dX5_planOf_50 (by decide) (fun c50_1 => ?_) (fun c50_1 => ?_)
    · obtain rfl : i = n := (by omega)
      exact kE _ hF ik iy
    · refine a_aload_n (j := 2) dX5_planOf_53 rfl rfl (Nat.le_of_ble_eq_true rfl) ?_
      refine a_iload_n (j := 1) dX5_planOf_54 rfl rfl ?_
      refine a_aload_n (j := 3) dX5_planOf_55 rfl rfl (Nat.le_of_ble_eq_true rfl) ?_
      refine b_getp (a := 1) (p := 5) dX5_planOf_56 fwX5_175 (by decide) rfl (by decide) rfl rfl ?_
      refine a_iload (j := 0) dX5_planOf_59 rfl ?_
      refine b_iaload (a := 5) (z := ((pl i : Nat) : Int)) i dX5_planOf_61 (by decide) rfl rfl (by omega) (sp_nil rfl _) ((Fr_v hF (by decide)).trans (hpl i (by omega)).1) (fun r61_2 => ?_)
      have hp1 := (hpl (i - 1) (by omega)).2
      have hp2 := (hpl i (by omega)).2
      refine b_callV (d' := d - 1) (mc' := 0) (ms' := 0) (mc1 := 0) (ms1 := 0) (st := []) (b := 63) [vI (((pl (i - 1)) : Nat) : Int), vI ((pl i : Nat) : Int)] dX5_planOf_62 mwX5_goOn lkX5_181 (by decide) rfl rc_X5 rfl (Nat.le_of_ble_eq_true rfl) (by omega) rfl rfl (c_X5_goOn (T := T) (a := pl (i - 1)) (b := pl i) (W := wyN T pl (i - 1)) (by omega) hT (TT_w hF ik hTT) hp1 hp2 (wy_b4 hT (by omega)) iy (fun h9 hF9 j1 j2 => ?_))
      show Aj γ mX5_planOf d 0 0 Post 65 [(4, vI ((i : Nat) : Int)), (3, vI (((pl (i - 1)) : Nat) : Int)), (0, vA 63), (1, vA 1), (2, vI b)] [] (mk h9 τ)
      refine a_aload_n (j := 3) dX5_planOf_65 rfl rfl (Nat.le_of_ble_eq_true rfl) ?_
      refine b_getp (a := 1) (p := 5) dX5_planOf_66 fwX5_175 (by decide) rfl (by decide) rfl rfl ?_
      refine a_iload (j := 0) dX5_planOf_69 rfl ?_
      refine b_iaload (a := 5) (z := ((pl i : Nat) : Int)) i dX5_planOf_71 (by decide) rfl rfl (by omega) (sp_nil rfl _) ((Fr_v hF9 (by decide)).trans ((Fr_v hF (by decide)).trans (hpl i (by omega)).1)) (fun r71_3 => ?_)
      refine a_istore_n (lv' := [(3, vI ((pl i : Nat) : Int)), (4, vI ((i : Nat) : Int)), (0, vA 63), (1, vA 1), (2, vI b)]) dX5_planOf_72 rfl (by decide) rfl ?_
      refine a_iinc (j := 1) (z' := ((i + 1 : Nat) : Int)) (lv' := [(4, vI ((i + 1 : Nat) : Int)), (3, vI ((pl i : Nat) : Int)), (0, vA 63), (1, vA 1), (2, vI b)]) dX5_planOf_73 rfl (w_okN (by omega) (by omega) (by omega)) (by decide) rfl ?_
      refine a_goto (tgt := 44) dX5_planOf_76 (by decide) ?_
      have ey : WY h9 (wyN T pl i) := by
        have e : wyN T pl ((i - 1) + 1) = wyS T (pl (i - 1)) (pl ((i - 1) + 1)) (wyN T pl (i - 1)) := rfl
        rw [show (i - 1) + 1 = i by omega] at e
        rw [e]; exact j2
      refine a_lv (lv' := [(4, vI (((i + 1) : Nat) : Int)), (3, vI (((pl i) : Nat) : Int)), (0, vA 63), (1, vA 1), (2, vI b)]) (by intro q hq; simp only [List.mem_cons, List.not_mem_nil, or_false] at hq ⊢; rcases hq with rfl | rfl | rfl | rfl | rfl <;> simp) (ih (i + 1) h9 (by omega) (by omega) (Fr_t hF hF9) (fun k a b => (j1 k a b).trans (ik k a b)) (by rw [show i + 1 - 1 = i by omega]; exact ey) (by omega))
set_option maxHeartbeats 8000000 in
theorem l_pl0_76 {γ : GT} {d : Nat} {T : Nat → Nat → Int} {a : Nat} {b : Int} {h : Nat → Nat → Int} {τ : List AC} {Post : Option AV → List AC → Prop} (hd : 2 ≤ d) (hT : tOK T) (hTT : TT h T) (ha : (a : Int) < T 0 2) (h17 : h 63 17 = ((76 : Nat) : Int)) (kE : ∀ h' x, Fr [76] h h' → (∀ s, s < 4 → h' 76 s = T 8 (4 * a + s)) → Aj γ mX5_planOf d 0 0 Post 41 [(4, vI x), (3, vI ((a : Nat) : Int)), (0, vA 63), (1, vA 1), (2, vI b)] [] (mk h' τ)) :
    ∀ (f i : Nat) (h1 : Nat → Nat → Int), i ≤ 4 → 4 < i + f → Fr [76] h h1 → (∀ s, s < i → h1 76 s = T 8 (4 * a + s)) → Aj γ mX5_planOf d 0 0 Post 10 [(4, vI ((i : Nat) : Int)), (3, vI ((a : Nat) : Int)), (0, vA 63), (1, vA 1), (2, vI b)] [] (mk h1 τ) := by
  intro f
  induction f with
  | zero => intro i h1  h1_ h2_; omega
  | succ f ih =>
    intro i h1  h1_ h2_ hF iv
    have h2_ := hT.2.2.1
    refine a_iload (j := 0) dX5_planOf_10 rfl ?_
    refine a_iconst dX5_planOf_12 ⟨by decide, by decide⟩ ?_
    refine a_icmp_ge (tgt := 41) dX5_planOf_13 (by decide) (fun c13_1 => ?_) (fun c13_1 => ?_)
    · exact kE _ _ hF (fun s hs => iv s (by omega))
    · refine a_aload_n (j := 2) dX5_planOf_16 rfl rfl (Nat.le_of_ble_eq_true rfl) ?_
      refine b_get (a := 63) (z := ((76 : Nat) : Int)) (t := 2) dX5_planOf_17 fwX5_52 (by decide) rfl (by decide) rfl rfl ((Fr_v hF (by decide)).trans h17) ?_
      refine a_iload (j := 0) dX5_planOf_20 rfl ?_
      refine a_aload_n (j := 2) dX5_planOf_22 rfl rfl (Nat.le_of_ble_eq_true rfl) ?_
      refine b_getp (a := 63) (p := 71) dX5_planOf_23 fwX5_37 (by decide) rfl (by decide) rfl rfl ?_
      refine a_iload_n (j := 1) dX5_planOf_26 rfl rfl ?_
      refine a_iconst dX5_planOf_27 ⟨by decide, by decide⟩ ?_
      refine a_imul (z := (((a : Nat) : Int) * 4)) dX5_planOf_28 (w_ok (by omega) (by omega)) ?_
      refine a_iload (j := 0) dX5_planOf_29 rfl ?_
      refine a_iadd (z := ((((a : Nat) : Int) * 4) + ((i : Nat) : Int))) dX5_planOf_31 (w_ok (by omega) (by omega)) ?_
      refine b_iaload (a := 71) (z := T 8 (4 * a + i)) (4 * a + i) dX5_planOf_32 (by decide) rfl (by omega) (by omega) (sp_nil rfl _) ((Fr_v hF (by decide)).trans ((hTT.2.2.1 a (by omega)).2.2.2.2.2.2 i (by omega)).1) (fun r32_2 => ?_)
      refine a_i2l dX5_planOf_33 ?_
      refine b_lastore (a := 76) i dX5_planOf_34 (by decide) rfl rfl (by omega) (sp_nil rfl _) ?_
      refine a_iinc (j := 0) (z' := ((i + 1 : Nat) : Int)) (lv' := [(4, vI ((i + 1 : Nat) : Int)), (3, vI ((a : Nat) : Int)), (0, vA 63), (1, vA 1), (2, vI b)]) dX5_planOf_35 rfl (w_okN (by omega) (by omega) (by omega)) (by decide) rfl ?_
      refine a_goto (tgt := 10) dX5_planOf_38 (by decide) ?_
      refine a_lv (lv' := [(4, vI (((i + 1) : Nat) : Int)), (3, vI ((a : Nat) : Int)), (0, vA 63), (1, vA 1), (2, vI b)]) (by intro q hq; simp only [List.mem_cons, List.not_mem_nil, or_false] at hq ⊢; rcases hq with rfl | rfl | rfl | rfl | rfl <;> simp) (ih (i + 1) (up2 h1 76 i (T 8 (4 * a + i)))  (by omega) (by omega) (Fr_u (by decide) (Fr_m (by decide) hF)) (fun s hs => by
          by_cases c : s = i
          · subst c; exact up2_at
          · exact (up2_ne (by omega)).trans (iv s (by omega))))
set_option maxHeartbeats 8000000 in
theorem l_pl0_77 {γ : GT} {d : Nat} {T : Nat → Nat → Int} {a : Nat} {b : Int} {h : Nat → Nat → Int} {τ : List AC} {Post : Option AV → List AC → Prop} (hd : 2 ≤ d) (hT : tOK T) (hTT : TT h T) (ha : (a : Int) < T 0 2) (h17 : h 63 17 = ((77 : Nat) : Int)) (kE : ∀ h' x, Fr [77] h h' → (∀ s, s < 4 → h' 77 s = T 8 (4 * a + s)) → Aj γ mX5_planOf d 0 0 Post 41 [(4, vI x), (3, vI ((a : Nat) : Int)), (0, vA 63), (1, vA 1), (2, vI b)] [] (mk h' τ)) :
    ∀ (f i : Nat) (h1 : Nat → Nat → Int), i ≤ 4 → 4 < i + f → Fr [77] h h1 → (∀ s, s < i → h1 77 s = T 8 (4 * a + s)) → Aj γ mX5_planOf d 0 0 Post 10 [(4, vI ((i : Nat) : Int)), (3, vI ((a : Nat) : Int)), (0, vA 63), (1, vA 1), (2, vI b)] [] (mk h1 τ) := by
  intro f
  induction f with
  | zero => intro i h1  h1_ h2_; omega
  | succ f ih =>
    intro i h1  h1_ h2_ hF iv
    have h2_ := hT.2.2.1
    refine a_iload (j := 0) dX5_planOf_10 rfl ?_
    refine a_iconst dX5_planOf_12 ⟨by decide, by decide⟩ ?_
    refine a_icmp_ge (tgt := 41) dX5_planOf_13 (by decide) (fun c13_1 => ?_) (fun c13_1 => ?_)
    · exact kE _ _ hF (fun s hs => iv s (by omega))
    · refine a_aload_n (j := 2) dX5_planOf_16 rfl rfl (Nat.le_of_ble_eq_true rfl) ?_
      refine b_get (a := 63) (z := ((77 : Nat) : Int)) (t := 2) dX5_planOf_17 fwX5_52 (by decide) rfl (by decide) rfl rfl ((Fr_v hF (by decide)).trans h17) ?_
      refine a_iload (j := 0) dX5_planOf_20 rfl ?_
      refine a_aload_n (j := 2) dX5_planOf_22 rfl rfl (Nat.le_of_ble_eq_true rfl) ?_
      refine b_getp (a := 63) (p := 71) dX5_planOf_23 fwX5_37 (by decide) rfl (by decide) rfl rfl ?_
      refine a_iload_n (j := 1) dX5_planOf_26 rfl rfl ?_
      refine a_iconst dX5_planOf_27 ⟨by decide, by decide⟩ ?_
      refine a_imul (z := (((a : Nat) : Int) * 4)) dX5_planOf_28 (w_ok (by omega) (by omega)) ?_
      refine a_iload (j := 0) dX5_planOf_29 rfl ?_
      refine a_iadd (z := ((((a : Nat) : Int) * 4) + ((i : Nat) : Int))) dX5_planOf_31 (w_ok (by omega) (by omega)) ?_
      refine b_iaload (a := 71) (z := T 8 (4 * a + i)) (4 * a + i) dX5_planOf_32 (by decide) rfl (by omega) (by omega) (sp_nil rfl _) ((Fr_v hF (by decide)).trans ((hTT.2.2.1 a (by omega)).2.2.2.2.2.2 i (by omega)).1) (fun r32_2 => ?_)
      refine a_i2l dX5_planOf_33 ?_
      refine b_lastore (a := 77) i dX5_planOf_34 (by decide) rfl rfl (by omega) (sp_nil rfl _) ?_
      refine a_iinc (j := 0) (z' := ((i + 1 : Nat) : Int)) (lv' := [(4, vI ((i + 1 : Nat) : Int)), (3, vI ((a : Nat) : Int)), (0, vA 63), (1, vA 1), (2, vI b)]) dX5_planOf_35 rfl (w_okN (by omega) (by omega) (by omega)) (by decide) rfl ?_
      refine a_goto (tgt := 10) dX5_planOf_38 (by decide) ?_
      refine a_lv (lv' := [(4, vI (((i + 1) : Nat) : Int)), (3, vI ((a : Nat) : Int)), (0, vA 63), (1, vA 1), (2, vI b)]) (by intro q hq; simp only [List.mem_cons, List.not_mem_nil, or_false] at hq ⊢; rcases hq with rfl | rfl | rfl | rfl | rfl <;> simp) (ih (i + 1) (up2 h1 77 i (T 8 (4 * a + i)))  (by omega) (by omega) (Fr_u (by decide) (Fr_m (by decide) hF)) (fun s hs => by
          by_cases c : s = i
          · subst c; exact up2_at
          · exact (up2_ne (by omega)).trans (iv s (by omega))))
set_option maxHeartbeats 8000000 in
theorem c_X5_planOf {γ : GT} {d : Nat} {T : Nat → Nat → Int} {pl : Nat → Nat} {n : Nat} {q : Int} {b : Int} {h : Nat → Nat → Int} {τ : List AC} {Post : Option AV → List AC → Prop} (hd : 3 ≤ d) (hT : tOK T) (hTT : TT h T) (hn : h 1 7 = ((n : Nat) : Int)) (hn6 : 1 ≤ n ∧ n ≤ 6) (hpl : ∀ k : Nat, k < n → h 5 k = ((pl k : Nat) : Int) ∧ ((pl k : Nat) : Int) < T 0 2) (hY : WYo h) (hb01 : (b = 0 ∧ ¬ q = 1) ∨ (b = 1 ∧ q = 1)) (kQ : ∀ h', Fr [63, 76, 77] h h' → K18 h h' → WYo h' → Post (some (vL (plV T pl n q))) (mk h' τ)) : Cj γ mX5_planOf d 0 0 [vA 63, vA 1, vI b] (mk h τ) Post := by
  have h2_ := hT.2.2.1
  have hp0 := hpl 0 (by omega)
  refine c_of (by decide) (Nat.le_of_ble_eq_true rfl) ?_
  show Aj γ mX5_planOf d 0 0 Post 0 [(0, vA 63), (1, vA 1), (2, vI b)] [] (mk h τ)
  refine a_aload_n (j := 1) dX5_planOf_0 rfl rfl (Nat.le_of_ble_eq_true rfl) ?_
  refine b_getp (a := 1) (p := 5) dX5_planOf_1 fwX5_175 (by decide) rfl (by decide) rfl rfl ?_
  refine a_iconst dX5_planOf_4 ⟨by decide, by decide⟩ ?_
  refine b_iaload (a := 5) (z := ((pl 0 : Nat) : Int)) 0 dX5_planOf_5 (by decide) rfl rfl (by decide) rfl hp0.1 (fun r5_1 => ?_)
  refine a_istore_n (lv' := [(3, vI ((pl 0 : Nat) : Int)), (0, vA 63), (1, vA 1), (2, vI b)]) dX5_planOf_6 rfl (by decide) rfl ?_
  refine a_iconst dX5_planOf_7 ⟨by decide, by decide⟩ ?_
  refine a_istore (lv' := [(4, vI 0), (3, vI ((pl 0 : Nat) : Int)), (0, vA 63), (1, vA 1), (2, vI b)]) dX5_planOf_8 (by decide) rfl ?_
  rcases hY with ⟨y1, y2⟩ | ⟨y1, y2⟩
  · refine a_lv (lv' := [(4, vI ((0 : Nat) : Int)), (3, vI (((pl 0) : Nat) : Int)), (0, vA 63), (1, vA 1), (2, vI b)]) (by intro q hq; simp only [List.mem_cons, List.not_mem_nil, or_false] at hq ⊢; rcases hq with rfl | rfl | rfl | rfl | rfl <;> simp) (l_pl0_76 (h := h) (T := T) (a := pl 0) (by omega) hT hTT hp0.2 y1 ?_ 5 0 h (by omega) (by omega) Fr_r (fun s hs => by omega))
    intro h7 x7 hF7 a7
    have w7 : WY h7 (wyN T pl 0) := Or.inl ⟨(Fr_v hF7 (by decide)).trans y1, (Fr_v hF7 (by decide)).trans y2, a7⟩
    refine a_iconst dX5_planOf_41 ⟨by decide, by decide⟩ ?_
    refine a_istore (lv' := [(4, vI 1), (3, vI (((pl 0) : Nat) : Int)), (0, vA 63), (1, vA 1), (2, vI b)]) dX5_planOf_42 (by decide) rfl ?_
    refine a_lv (lv' := [(4, vI ((1 : Nat) : Int)), (3, vI (((pl 0) : Nat) : Int)), (0, vA 63), (1, vA 1), (2, vI b)]) (by intro q hq; simp only [List.mem_cons, List.not_mem_nil, or_false] at hq ⊢; rcases hq with rfl | rfl | rfl | rfl | rfl <;> simp) (l_plM (h := h7) (T := T) (pl := pl) (n := n) (q := q) hd hT (TT_fr (by decide) hF7 hTT) ((Fr_v hF7 (by decide)).trans hn) hn6 (fun k hk => ⟨(Fr_v hF7 (by decide)).trans (hpl k hk).1, (hpl k hk).2⟩) ?_ n 1 h7 (by omega) (by omega) Fr_r (fun k a b => rfl) w7 (by omega))
    intro h8 hF8 k8 w8
    have hT8 := TT_w hF8 k8 (TT_fr (by decide) hF7 hTT)
    have hpe := (hpl (n - 1) (by omega)).2
    refine a_lconst (z := 0) dX5_planOf_79 ⟨by decide, by decide, by decide⟩ ?_
    refine a_lstore (lv' := [(4, vL 0), (3, vI (((pl (n - 1)) : Nat) : Int)), (0, vA 63), (1, vA 1), (2, vI b)]) dX5_planOf_80 (by decide) rfl ?_
    refine a_iconst dX5_planOf_82 ⟨by decide, by decide⟩ ?_
    refine a_istore (lv' := [(6, vI 0), (4, vL 0), (3, vI (((pl (n - 1)) : Nat) : Int)), (0, vA 63), (1, vA 1), (2, vI b)]) dX5_planOf_83 (by decide) rfl ?_
    rcases w8 with ⟨z1, z2, z3⟩ | ⟨z1, z2, z3⟩
    · rcases hb01 with ⟨rfl, hq⟩ | ⟨rfl, hq⟩
      · exact a_lv (lv' := [(6, vI ((0 : Nat) : Int)), (4, vL 0), (3, vI (((pl (n - 1)) : Nat) : Int)), (0, vA 63), (1, vA 1), (2, vI 0)]) (by intro q hq; simp only [List.mem_cons, List.not_mem_nil, or_false] at hq ⊢; rcases hq with rfl | rfl | rfl | rfl | rfl | rfl <;> simp) (l_plF76_0 (h := h8) (T := T) (W := wyN T pl (n - 1)) (by omega) hT hT8 hpe z1 z3 (wy_b5 hT (by omega)) (post_l (kQ h8 (Fr_t (Fr_m (by decide) hF7) hF8) (fun k a b => (k8 k a b).trans (Fr_v hF7 (by decide))) (Or.inl ⟨z1, z2⟩)) (by unfold plV; rw [if_neg hq])) 5 0 (by omega) (by omega))
      · exact a_lv (lv' := [(6, vI ((0 : Nat) : Int)), (4, vL 0), (3, vI (((pl (n - 1)) : Nat) : Int)), (0, vA 63), (1, vA 1), (2, vI 1)]) (by intro q hq; simp only [List.mem_cons, List.not_mem_nil, or_false] at hq ⊢; rcases hq with rfl | rfl | rfl | rfl | rfl | rfl <;> simp) (l_plF76_1 (h := h8) (T := T) (W := wyN T pl (n - 1)) (by omega) hT hT8 hpe z1 z3 (wy_b5 hT (by omega)) (post_l (kQ h8 (Fr_t (Fr_m (by decide) hF7) hF8) (fun k a b => (k8 k a b).trans (Fr_v hF7 (by decide))) (Or.inl ⟨z1, z2⟩)) (by unfold plV; rw [if_pos hq])) 5 0 (by omega) (by omega))
    · rcases hb01 with ⟨rfl, hq⟩ | ⟨rfl, hq⟩
      · exact a_lv (lv' := [(6, vI ((0 : Nat) : Int)), (4, vL 0), (3, vI (((pl (n - 1)) : Nat) : Int)), (0, vA 63), (1, vA 1), (2, vI 0)]) (by intro q hq; simp only [List.mem_cons, List.not_mem_nil, or_false] at hq ⊢; rcases hq with rfl | rfl | rfl | rfl | rfl | rfl <;> simp) (l_plF77_0 (h := h8) (T := T) (W := wyN T pl (n - 1)) (by omega) hT hT8 hpe z1 z3 (wy_b5 hT (by omega)) (post_l (kQ h8 (Fr_t (Fr_m (by decide) hF7) hF8) (fun k a b => (k8 k a b).trans (Fr_v hF7 (by decide))) (Or.inr ⟨z1, z2⟩)) (by unfold plV; rw [if_neg hq])) 5 0 (by omega) (by omega))
      · exact a_lv (lv' := [(6, vI ((0 : Nat) : Int)), (4, vL 0), (3, vI (((pl (n - 1)) : Nat) : Int)), (0, vA 63), (1, vA 1), (2, vI 1)]) (by intro q hq; simp only [List.mem_cons, List.not_mem_nil, or_false] at hq ⊢; rcases hq with rfl | rfl | rfl | rfl | rfl | rfl <;> simp) (l_plF77_1 (h := h8) (T := T) (W := wyN T pl (n - 1)) (by omega) hT hT8 hpe z1 z3 (wy_b5 hT (by omega)) (post_l (kQ h8 (Fr_t (Fr_m (by decide) hF7) hF8) (fun k a b => (k8 k a b).trans (Fr_v hF7 (by decide))) (Or.inr ⟨z1, z2⟩)) (by unfold plV; rw [if_pos hq])) 5 0 (by omega) (by omega))
  · refine a_lv (lv' := [(4, vI ((0 : Nat) : Int)), (3, vI (((pl 0) : Nat) : Int)), (0, vA 63), (1, vA 1), (2, vI b)]) (by intro q hq; simp only [List.mem_cons, List.not_mem_nil, or_false] at hq ⊢; rcases hq with rfl | rfl | rfl | rfl | rfl <;> simp) (l_pl0_77 (h := h) (T := T) (a := pl 0) (by omega) hT hTT hp0.2 y1 ?_ 5 0 h (by omega) (by omega) Fr_r (fun s hs => by omega))
    intro h7 x7 hF7 a7
    have w7 : WY h7 (wyN T pl 0) := Or.inr ⟨(Fr_v hF7 (by decide)).trans y1, (Fr_v hF7 (by decide)).trans y2, a7⟩
    refine a_iconst dX5_planOf_41 ⟨by decide, by decide⟩ ?_
    refine a_istore (lv' := [(4, vI 1), (3, vI (((pl 0) : Nat) : Int)), (0, vA 63), (1, vA 1), (2, vI b)]) dX5_planOf_42 (by decide) rfl ?_
    refine a_lv (lv' := [(4, vI ((1 : Nat) : Int)), (3, vI (((pl 0) : Nat) : Int)), (0, vA 63), (1, vA 1), (2, vI b)]) (by intro q hq; simp only [List.mem_cons, List.not_mem_nil, or_false] at hq ⊢; rcases hq with rfl | rfl | rfl | rfl | rfl <;> simp) (l_plM (h := h7) (T := T) (pl := pl) (n := n) (q := q) hd hT (TT_fr (by decide) hF7 hTT) ((Fr_v hF7 (by decide)).trans hn) hn6 (fun k hk => ⟨(Fr_v hF7 (by decide)).trans (hpl k hk).1, (hpl k hk).2⟩) ?_ n 1 h7 (by omega) (by omega) Fr_r (fun k a b => rfl) w7 (by omega))
    intro h8 hF8 k8 w8
    have hT8 := TT_w hF8 k8 (TT_fr (by decide) hF7 hTT)
    have hpe := (hpl (n - 1) (by omega)).2
    refine a_lconst (z := 0) dX5_planOf_79 ⟨by decide, by decide, by decide⟩ ?_
    refine a_lstore (lv' := [(4, vL 0), (3, vI (((pl (n - 1)) : Nat) : Int)), (0, vA 63), (1, vA 1), (2, vI b)]) dX5_planOf_80 (by decide) rfl ?_
    refine a_iconst dX5_planOf_82 ⟨by decide, by decide⟩ ?_
    refine a_istore (lv' := [(6, vI 0), (4, vL 0), (3, vI (((pl (n - 1)) : Nat) : Int)), (0, vA 63), (1, vA 1), (2, vI b)]) dX5_planOf_83 (by decide) rfl ?_
    rcases w8 with ⟨z1, z2, z3⟩ | ⟨z1, z2, z3⟩
    · rcases hb01 with ⟨rfl, hq⟩ | ⟨rfl, hq⟩
      · exact a_lv (lv' := [(6, vI ((0 : Nat) : Int)), (4, vL 0), (3, vI (((pl (n - 1)) : Nat) : Int)), (0, vA 63), (1, vA 1), (2, vI 0)]) (by intro q hq; simp only [List.mem_cons, List.not_mem_nil, or_false] at hq ⊢; rcases hq with rfl | rfl | rfl | rfl | rfl | rfl <;> simp) (l_plF76_0 (h := h8) (T := T) (W := wyN T pl (n - 1)) (by omega) hT hT8 hpe z1 z3 (wy_b5 hT (by omega)) (post_l (kQ h8 (Fr_t (Fr_m (by decide) hF7) hF8) (fun k a b => (k8 k a b).trans (Fr_v hF7 (by decide))) (Or.inl ⟨z1, z2⟩)) (by unfold plV; rw [if_neg hq])) 5 0 (by omega) (by omega))
      · exact a_lv (lv' := [(6, vI ((0 : Nat) : Int)), (4, vL 0), (3, vI (((pl (n - 1)) : Nat) : Int)), (0, vA 63), (1, vA 1), (2, vI 1)]) (by intro q hq; simp only [List.mem_cons, List.not_mem_nil, or_false] at hq ⊢; rcases hq with rfl | rfl | rfl | rfl | rfl | rfl <;> simp) (l_plF76_1 (h := h8) (T := T) (W := wyN T pl (n - 1)) (by omega) hT hT8 hpe z1 z3 (wy_b5 hT (by omega)) (post_l (kQ h8 (Fr_t (Fr_m (by decide) hF7) hF8) (fun k a b => (k8 k a b).trans (Fr_v hF7 (by decide))) (Or.inl ⟨z1, z2⟩)) (by unfold plV; rw [if_pos hq])) 5 0 (by omega) (by omega))
    · rcases hb01 with ⟨rfl, hq⟩ | ⟨rfl, hq⟩
      · exact a_lv (lv' := [(6, vI ((0 : Nat) : Int)), (4, vL 0), (3, vI (((pl (n - 1)) : Nat) : Int)), (0, vA 63), (1, vA 1), (2, vI 0)]) (by intro q hq; simp only [List.mem_cons, List.not_mem_nil, or_false] at hq ⊢; rcases hq with rfl | rfl | rfl | rfl | rfl | rfl <;> simp) (l_plF77_0 (h := h8) (T := T) (W := wyN T pl (n - 1)) (by omega) hT hT8 hpe z1 z3 (wy_b5 hT (by omega)) (post_l (kQ h8 (Fr_t (Fr_m (by decide) hF7) hF8) (fun k a b => (k8 k a b).trans (Fr_v hF7 (by decide))) (Or.inr ⟨z1, z2⟩)) (by unfold plV; rw [if_neg hq])) 5 0 (by omega) (by omega))
      · exact a_lv (lv' := [(6, vI ((0 : Nat) : Int)), (4, vL 0), (3, vI (((pl (n - 1)) : Nat) : Int)), (0, vA 63), (1, vA 1), (2, vI 1)]) (by intro q hq; simp only [List.mem_cons, List.not_mem_nil, or_false] at hq ⊢; rcases hq with rfl | rfl | rfl | rfl | rfl | rfl <;> simp) (l_plF77_1 (h := h8) (T := T) (W := wyN T pl (n - 1)) (by omega) hT hT8 hpe z1 z3 (wy_b5 hT (by omega)) (post_l (kQ h8 (Fr_t (Fr_m (by decide) hF7) hF8) (fun k a b => (k8 k a b).trans (Fr_v hF7 (by decide))) (Or.inr ⟨z1, z2⟩)) (by unfold plV; rw [if_pos hq])) 5 0 (by omega) (by omega))
