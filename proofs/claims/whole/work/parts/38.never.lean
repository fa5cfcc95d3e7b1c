/-! MENDS -/
def moT (T : Nat → Nat → Int) (a b p : Nat) : Int := mxF 0 (msT T a (p / 4) b (p % 4))
def mdP (T : Nat → Nat → Int) (a b : Nat) (v : Int) : Nat → Prop := fun m => v ≤ mkT T a b (m : Int)
def LI (T : Nat → Nat → Int) (a b : Nat) (v : Int) (n : Nat) (l : Int) : Prop := (l = -1000000005 ∨ (0 ≤ l ∧ l ≤ 999 ∧ v ≤ mkT T a b l)) ∧ ∀ p, p < n → moT T a b p ≤ 999 → v ≤ mkT T a b (moT T a b p) → 0 ≤ l ∧ l ≤ moT T a b p
theorem mo_nn (T : Nat → Nat → Int) (a b p : Nat) : 0 ≤ moT T a b p ∧ msT T a (p / 4) b (p % 4) ≤ moT T a b p ∧ (moT T a b p = 0 ∨ moT T a b p = msT T a (p / 4) b (p % 4)) := by
  unfold moT mxF
  by_cases c : 0 < msT T a (p / 4) b (p % 4)
  · rw [if_pos c]; omega
  · rw [if_neg c]; omega
theorem LI_n {T : Nat → Nat → Int} {a b n : Nat} {v l : Int} (h : LI T a b v n l) (hn : ¬ (moT T a b n ≤ 999 ∧ (l = -1000000005 ∨ moT T a b n < l) ∧ v ≤ mkT T a b (moT T a b n))) : LI T a b v (n + 1) l := by
  refine ⟨h.1, fun p hp h1 h2 => ?_⟩
  by_cases c : p = n
  · subst c
    have := h.1
    omega
  · exact h.2 p (by omega) h1 h2
theorem LI_y {T : Nat → Nat → Int} {a b n : Nat} {v l : Int} (h : LI T a b v n l) (h1 : moT T a b n ≤ 999) (h2 : l = -1000000005 ∨ moT T a b n < l) (h3 : v ≤ mkT T a b (moT T a b n)) : LI T a b v (n + 1) (moT T a b n) := by
  have hm := mo_nn T a b n
  refine ⟨Or.inr ⟨hm.1, h1, h3⟩, fun p hp q1 q2 => ?_⟩
  by_cases c : p = n
  · subst c; omega
  · have := h.2 p (by omega) q1 q2
    omega
theorem mx_le {f : Nat → Int} {m : Int} : ∀ n : Nat, (∃ p, p < n ∧ f p ≤ m) → ∃ p, p < n ∧ f p ≤ m ∧ ∀ q, q < n → f q ≤ m → f q ≤ f p
  | 0, ⟨p, hp, _⟩ => by omega
  | n + 1, h => by
    rcases Classical.em (∃ p, p < n ∧ f p ≤ m) with c | c
    · obtain ⟨p, h1, h2, h3⟩ := mx_le n c
      by_cases c2 : f n ≤ m ∧ f p < f n
      · refine ⟨n, by omega, c2.1, fun q hq hm => ?_⟩
        by_cases e : q = n
        · subst e; omega
        · have := h3 q (by omega) hm; omega
      · refine ⟨p, by omega, h2, fun q hq hm => ?_⟩
        by_cases e : q = n
        · subst e; omega
        · exact h3 q (by omega) hm
    · obtain ⟨p, h1, h2⟩ := h
      have e : p = n := by
        by_cases e : p = n
        · exact e
        · exact absurd ⟨p, by omega, h2⟩ c
      subst e
      refine ⟨p, by omega, h2, fun q hq hm => ?_⟩
      by_cases e : q = p
      · subst e; omega
      · exact absurd ⟨q, by omega, hm⟩ c
theorem sm_0 {f : Nat → Int} : ∀ {n : Nat}, (∀ k, k < n → f k = 0) → sm f n = 0
  | 0, _ => rfl
  | n + 1, h => by rw [sm_s, sm_0 (fun k hk => h k (by omega)), h n (by omega)]; rfl
theorem mk_same {T : Nat → Nat → Int} {a b : Nat} {m m' : Int} (h : ∀ p, p < 16 → (msT T a (p / 4) b (p % 4) ≤ m ↔ msT T a (p / 4) b (p % 4) ≤ m')) : mkT T a b m = mkT T a b m' := by
  unfold mkT
  refine sm_ext (fun s hs => sm_ext (fun r hr => ?_))
  have q := h (4 * s + r) (by omega)
  rw [show (4 * s + r) / 4 = s by omega, show (4 * s + r) % 4 = r by omega] at q
  unfold gT
  by_cases c : msT T a s b r ≤ m
  · rw [if_pos c, if_pos (q.mp c)]
  · rw [if_neg c, if_neg (fun e => c (q.mpr e))]
theorem mk_some {T : Nat → Nat → Int} {a b : Nat} {m : Int} (h : 0 < mkT T a b m) : ∃ p, p < 16 ∧ msT T a (p / 4) b (p % 4) ≤ m := by
  rcases Classical.em (∃ p, p < 16 ∧ msT T a (p / 4) b (p % 4) ≤ m) with c | c
  · exact c
  · exfalso
    have e : mkT T a b m = 0 := by
      unfold mkT
      refine sm_0 (fun s hs => sm_0 (fun r hr => ?_))
      refine gT_neg (fun e => c ⟨4 * s + r, by omega, ?_⟩)
      rw [show (4 * s + r) / 4 = s by omega, show (4 * s + r) % 4 = r by omega]
      exact e
    omega
theorem LI_end {T : Nat → Nat → Int} {a b : Nat} {v l : Int} (hv : 1 ≤ v) (h : LI T a b v 16 l) : FND (mdP T a b v) 0 1000 l := by
  have key : ∀ m : Nat, m < 1000 → mdP T a b v m → 0 ≤ l ∧ l ≤ (m : Int) := by
    intro m hm hp
    have hp : v ≤ mkT T a b (m : Int) := hp
    obtain ⟨p0, h0, h1⟩ := mk_some (T := T) (a := a) (b := b) (m := (m : Int)) (by omega)
    have hm0 := mo_nn T a b p0
    obtain ⟨p, q1, q2, q3⟩ := mx_le (f := moT T a b) (m := (m : Int)) 16 ⟨p0, h0, by omega⟩
    have e : mkT T a b (m : Int) = mkT T a b (moT T a b p) := by
      refine mk_same (fun q hq => ⟨fun e => ?_, fun e => ?_⟩)
      · have a1 := mo_nn T a b q
        have a2 := q3 q hq (by omega)
        omega
      · omega
    have := h.2 p q1 (by omega) (by omega)
    omega
  rcases h.1 with c | ⟨c1, c2, c3⟩
  · refine Or.inl ⟨c, fun k _ hk hp => ?_⟩
    have := key k hk hp
    omega
  · refine Or.inr ⟨Int.toNat l, by omega, by omega, by omega, ?_, fun j _ hj hp => ?_⟩
    · show v ≤ mkT T a b ((Int.toNat l : Nat) : Int)
      rw [show ((Int.toNat l : Nat) : Int) = l by omega]; exact c3
    · have := key j (by omega) hp
      omega
set_option maxHeartbeats 8000000 in
theorem l_mended {γ : GT} {d : Nat} {T : Nat → Nat → Int} {a b : Nat} {v : Int} {h : Nat → Nat → Int} {τ : List AC} {Post : Option AV → List AC → Prop} (hd : 3 ≤ d) (hT : tOK T) (hTT : TT h T) (ha : (a : Int) < T 0 2) (hb : (b : Int) < T 0 2) (hv : 1 ≤ v) (kQ : Post (some (vI (fndV (mdP T a b v) 0 1000))) (mk h τ)) :
    ∀ (f i : Nat) (l : Int), i ≤ 16 → 16 < i + f → (LI T a b v i l) → Aj γ mX5_mendedBy d 0 0 Post 7 [(5, vI ((i : Nat) : Int)), (4, vI l), (0, vA 63), (1, vI ((a : Nat) : Int)), (2, vI ((b : Nat) : Int)), (3, vI v)] [] (mk h τ) := by
  intro f
  induction f with
  | zero => intro i l h1_ h2_; omega
  | succ f ih =>
    intro i l h1_ h2_ iv
    obtain ⟨s, hs_⟩ : ∃ s : Nat, s = i / 4 := ⟨_, rfl⟩
    obtain ⟨r, hr_⟩ : ∃ r : Nat, r = i % 4 := ⟨_, rfl⟩
    have h2_ := hT.2.2.1
    have h3_ := hT.2.2.2.1
    have qa := hT.2.2.2.2.2 a
    have qa3 := qa.2.1
    have qa4 := qa.2.2.1
    have qa5 := qa.2.2.2.1
    have qa6 := qa.2.2.2.2.1
    have qa7 := qa.2.2.2.2.2.1
    have qa8 := (qa.2.2.2.2.2.2.2 (by omega))
    have qaw := hT.2.2.2.2.1 (Int.toNat (T 3 a))
    have qb := hT.2.2.2.2.2 b
    have qb3 := qb.2.1
    have qb4 := qb.2.2.1
    have qb5 := qb.2.2.2.1
    have qb6 := qb.2.2.2.2.1
    have qb7 := qb.2.2.2.2.2.1
    have qb8 := (qb.2.2.2.2.2.2.2 (by omega))
    have qbw := hT.2.2.2.2.1 (Int.toNat (T 3 b))
    refine a_iload (j := 0) dX5_mendedBy_7 rfl ?_
    refine a_bipush dX5_mendedBy_9 ⟨by decide, by decide, by decide⟩ ?_
    refine a_icmp_ge (tgt := 90) dX5_mendedBy_11 (by decide) (fun c11_1 => ?_) (fun c11_1 => ?_)
    · refine a_iload (j := 1) dX5_mendedBy_90 rfl ?_
      exact a_iret dX5_mendedBy_92 rfl (by obtain rfl : i = 16 := (by omega); exact post_v kQ (fnd_eq (LI_end hv iv)))
    · have qa9s := qa.2.2.2.2.2.2.1 s (by omega)
      have qb9r := qb.2.2.2.2.2.2.1 r (by omega)
      refine a_iconst dX5_mendedBy_14 ⟨by decide, by decide⟩ ?_
      refine a_aload_n (j := 2) dX5_mendedBy_15 rfl rfl (Nat.le_of_ble_eq_true rfl) ?_
      refine a_iload_n (j := 3) dX5_mendedBy_16 rfl rfl ?_
      refine a_iload (j := 0) dX5_mendedBy_17 rfl ?_
      refine a_iconst dX5_mendedBy_19 ⟨by decide, by decide⟩ ?_
      refine a_idiv (z := ((s : Nat) : Int)) dX5_mendedBy_20 (by omega) (by rw [w_divN (by omega) (by omega) (by omega)]; omega) ?_
      refine a_iload_n (j := 4) dX5_mendedBy_21 rfl rfl ?_
      refine a_iload (j := 0) dX5_mendedBy_22 rfl ?_
      refine a_iconst dX5_mendedBy_24 ⟨by decide, by decide⟩ ?_
      refine a_irem (z := ((r : Nat) : Int)) dX5_mendedBy_25 (by omega) (by rw [w_remN (by omega) (by omega) (by omega)]; omega) ?_
      refine b_callV (d' := d - 1) (mc' := 0) (ms' := 0) (mc1 := 0) (ms1 := 0) (st := [vI 0]) (b := 63) [vI ((a : Nat) : Int), vI ((s : Nat) : Int), vI ((b : Nat) : Int), vI ((r : Nat) : Int)] dX5_mendedBy_26 mwX5_missedBy lkX5_167 (by decide) rfl rc_X5 rfl (Nat.le_of_ble_eq_true rfl) (by omega) rfl rfl (c_X5_missedBy (v1 := (T 9 (4 * a + s))) (v2 := (T 4 a)) (v3 := (T 3 a)) (v4 := (T 1 (Int.toNat (T 3 a)))) (v5 := (T 9 (4 * b + r))) (v6 := (T 7 b)) (by omega)  ((congrArg (h 72) (show (Int.toNat ((((a : Nat) : Int) * 4) + ((s : Nat) : Int))) = (4 * a + s) by omega)).trans ((hTT.2.2.1 a (by omega)).2.2.2.2.2.2 s (by omega)).2) ((congrArg (h 67) (show (Int.toNat ((a : Nat) : Int)) = a by omega)).trans (hTT.2.2.1 a (by omega)).2.2.1) ((congrArg (h 66) (show (Int.toNat ((a : Nat) : Int)) = a by omega)).trans (hTT.2.2.1 a (by omega)).2.1) (hTT.2.1 _ (by omega)) ((congrArg (h 72) (show (Int.toNat ((((b : Nat) : Int) * 4) + ((r : Nat) : Int))) = (4 * b + r) by omega)).trans ((hTT.2.2.1 b (by omega)).2.2.2.2.2.2 r (by omega)).2) ((congrArg (h 70) (show (Int.toNat ((b : Nat) : Int)) = b by omega)).trans (hTT.2.2.1 b (by omega)).2.2.2.2.2.1) (show 0 ≤ ((a : Nat) : Int) ∧ ((a : Nat) : Int) ≤ 11 by omega) (show 0 ≤ ((b : Nat) : Int) ∧ ((b : Nat) : Int) ≤ 11 by omega) (show 0 ≤ ((s : Nat) : Int) ∧ ((s : Nat) : Int) ≤ 3 by omega) (show 0 ≤ ((r : Nat) : Int) ∧ ((r : Nat) : Int) ≤ 3 by omega) (show 0 ≤ (T 9 (4 * a + s)) ∧ (T 9 (4 * a + s)) ≤ 3000 by omega) (show 1 ≤ (T 4 a) ∧ (T 4 a) ≤ 600 by omega) (show 0 ≤ (T 3 a) ∧ (T 3 a) ≤ 5 by omega) (show 0 ≤ (T 1 (Int.toNat (T 3 a))) ∧ (T 1 (Int.toNat (T 3 a))) ≤ 99 by omega) (show 0 ≤ (T 9 (4 * b + r)) ∧ (T 9 (4 * b + r)) ≤ 3000 by omega) (show 0 ≤ (T 7 b) ∧ (T 7 b) ≤ 30 by omega) ?_)
      show Aj γ mX5_mendedBy d 0 0 Post 29 [(5, vI ((i : Nat) : Int)), (4, vI l), (0, vA 63), (1, vI ((a : Nat) : Int)), (2, vI ((b : Nat) : Int)), (3, vI v)] [vI ((T 9 (4 * a + s)) + (T 4 a) + (T 1 (Int.toNat (T 3 a))) - (T 9 (4 * b + r)) - (T 7 b)), vI 0] (mk h τ)
      show Aj γ mX5_mendedBy d 0 0 Post 29 [(5, vI ((i : Nat) : Int)), (4, vI l), (0, vA 63), (1, vI ((a : Nat) : Int)), (2, vI ((b : Nat) : Int)), (3, vI v)] [vI (msT T a s b r), vI 0] (mk h τ)
      have hms : -3000 ≤ msT T a s b r ∧ msT T a s b r ≤ 5000 := by unfold msT; omega
      refine a_mmax (z := (if 0 < (msT T a s b r) then (msT T a s b r) else 0)) dX5_mendedBy_29 mlX5_159 (Nat.le_of_ble_eq_true rfl) (by omega) rfl ?_
      refine a_istore (lv' := [(6, vI (if 0 < (msT T a s b r) then (msT T a s b r) else 0)), (5, vI ((i : Nat) : Int)), (4, vI l), (0, vA 63), (1, vI ((a : Nat) : Int)), (2, vI ((b : Nat) : Int)), (3, vI v)]) dX5_mendedBy_32 (by decide) rfl ?_
      refine a_iload (j := 2) dX5_mendedBy_34 rfl ?_
      refine a_ldc (z := (-1000000005)) dX5_mendedBy_36 kwX5_171 ⟨by decide, by decide, by decide⟩ ?_
      refine a_icmp_eq (tgt := 48) dX5_mendedBy_38 (by decide) (fun c38_2 => ?_) (fun c38_2 => ?_)
      · refine a_iconst dX5_mendedBy_48 ⟨by decide, by decide⟩ ?_
        refine a_goto (tgt := 53) dX5_mendedBy_49 (by decide) ?_
        refine a_istore (lv' := [(7, vI 1), (6, vI (if 0 < (msT T a s b r) then (msT T a s b r) else 0)), (5, vI ((i : Nat) : Int)), (4, vI l), (0, vA 63), (1, vI ((a : Nat) : Int)), (2, vI ((b : Nat) : Int)), (3, vI v)]) dX5_mendedBy_53 (by decide) rfl ?_
        refine a_iload (j := 1) dX5_mendedBy_55 rfl ?_
        refine a_sipush dX5_mendedBy_57 ⟨by decide, by decide, by decide⟩ ?_
        refine a_icmp_gt (tgt := 84) dX5_mendedBy_60 (by decide) (fun c60_3 => ?_) (fun c60_3 => ?_)
        · refine a_iinc (j := 2) (z' := ((i + 1 : Nat) : Int)) (lv' := [(5, vI ((i + 1 : Nat) : Int)), (7, vI 1), (6, vI (if 0 < (msT T a s b r) then (msT T a s b r) else 0)), (4, vI l), (0, vA 63), (1, vI ((a : Nat) : Int)), (2, vI ((b : Nat) : Int)), (3, vI v)]) dX5_mendedBy_84 rfl (w_okN (by omega) (by omega) (by omega)) (by decide) rfl ?_
          refine a_goto (tgt := 7) dX5_mendedBy_87 (by decide) ?_
          subst hs_
          subst hr_
          refine a_lv (lv' := [(5, vI (((i + 1) : Nat) : Int)), (4, vI l), (0, vA 63), (1, vI ((a : Nat) : Int)), (2, vI ((b : Nat) : Int)), (3, vI v)]) (by intro q hq; simp only [List.mem_cons, List.not_mem_nil, or_false] at hq ⊢; rcases hq with rfl | rfl | rfl | rfl | rfl | rfl <;> simp) (ih (i + 1) l (by omega) (by omega) (LI_n iv (by show ¬ ((if 0 < msT T a (i / 4) b (i % 4) then msT T a (i / 4) b (i % 4) else 0) ≤ 999 ∧ (l = -1000000005 ∨ (if 0 < msT T a (i / 4) b (i % 4) then msT T a (i / 4) b (i % 4) else 0) < l) ∧ v ≤ mkT T a b (if 0 < msT T a (i / 4) b (i % 4) then msT T a (i / 4) b (i % 4) else 0)); omega)))
        · refine a_iload (j := 0) dX5_mendedBy_63 rfl ?_
          refine a_if_eq (tgt := 84) dX5_mendedBy_65 (by decide) (fun c => absurd c (by decide)) (fun _ => ?_)
          refine a_aload_n (j := 4) dX5_mendedBy_68 rfl rfl (Nat.le_of_ble_eq_true rfl) ?_
          refine a_iload_n (j := 5) dX5_mendedBy_69 rfl rfl ?_
          refine a_iload_n (j := 6) dX5_mendedBy_70 rfl rfl ?_
          refine a_iload (j := 1) dX5_mendedBy_71 rfl ?_
          refine b_callV (d' := d - 1) (mc' := 0) (ms' := 0) (mc1 := 0) (ms1 := 0) (st := []) (b := 63) [vI ((a : Nat) : Int), vI ((b : Nat) : Int), vI (if 0 < (msT T a s b r) then (msT T a s b r) else 0)] dX5_mendedBy_73 mwX5_madeOf lkX5_172 (by decide) rfl rc_X5 rfl (Nat.le_of_ble_eq_true rfl) (by omega) rfl rfl (c_X5_madeOf (T := T) (a := a) (b := b) (more := (if 0 < (msT T a s b r) then (msT T a s b r) else 0)) (by omega) hT hTT (by omega) (by omega) ?_)
          show Aj γ mX5_mendedBy d 0 0 Post 76 [(7, vI 1), (6, vI (if 0 < (msT T a s b r) then (msT T a s b r) else 0)), (5, vI ((i : Nat) : Int)), (4, vI l), (0, vA 63), (1, vI ((a : Nat) : Int)), (2, vI ((b : Nat) : Int)), (3, vI v)] [vI (mkT T a b (if 0 < (msT T a s b r) then (msT T a s b r) else 0))] (mk h τ)
          refine a_iload_n (j := 7) dX5_mendedBy_76 rfl rfl ?_
          refine a_icmp_lt (tgt := 84) dX5_mendedBy_77 (by decide) (fun c77_4 => ?_) (fun c77_4 => ?_)
          · refine a_iinc (j := 2) (z' := ((i + 1 : Nat) : Int)) (lv' := [(5, vI ((i + 1 : Nat) : Int)), (7, vI 1), (6, vI (if 0 < (msT T a s b r) then (msT T a s b r) else 0)), (4, vI l), (0, vA 63), (1, vI ((a : Nat) : Int)), (2, vI ((b : Nat) : Int)), (3, vI v)]) dX5_mendedBy_84 rfl (w_okN (by omega) (by omega) (by omega)) (by decide) rfl ?_
            refine a_goto (tgt := 7) dX5_mendedBy_87 (by decide) ?_
            subst hs_
            subst hr_
            refine a_lv (lv' := [(5, vI (((i + 1) : Nat) : Int)), (4, vI l), (0, vA 63), (1, vI ((a : Nat) : Int)), (2, vI ((b : Nat) : Int)), (3, vI v)]) (by intro q hq; simp only [List.mem_cons, List.not_mem_nil, or_false] at hq ⊢; rcases hq with rfl | rfl | rfl | rfl | rfl | rfl <;> simp) (ih (i + 1) l (by omega) (by omega) (LI_n iv (by show ¬ ((if 0 < msT T a (i / 4) b (i % 4) then msT T a (i / 4) b (i % 4) else 0) ≤ 999 ∧ (l = -1000000005 ∨ (if 0 < msT T a (i / 4) b (i % 4) then msT T a (i / 4) b (i % 4) else 0) < l) ∧ v ≤ mkT T a b (if 0 < msT T a (i / 4) b (i % 4) then msT T a (i / 4) b (i % 4) else 0)); omega)))
          · refine a_iload (j := 1) dX5_mendedBy_80 rfl ?_
            refine a_istore (lv' := [(4, vI (if 0 < (msT T a s b r) then (msT T a s b r) else 0)), (7, vI 1), (6, vI (if 0 < (msT T a s b r) then (msT T a s b r) else 0)), (5, vI ((i : Nat) : Int)), (0, vA 63), (1, vI ((a : Nat) : Int)), (2, vI ((b : Nat) : Int)), (3, vI v)]) dX5_mendedBy_82 (by decide) rfl ?_
            refine a_iinc (j := 3) (z' := ((i + 1 : Nat) : Int)) (lv' := [(5, vI ((i + 1 : Nat) : Int)), (4, vI (if 0 < (msT T a s b r) then (msT T a s b r) else 0)), (7, vI 1), (6, vI (if 0 < (msT T a s b r) then (msT T a s b r) else 0)), (0, vA 63), (1, vI ((a : Nat) : Int)), (2, vI ((b : Nat) : Int)), (3, vI v)]) dX5_mendedBy_84 rfl (w_okN (by omega) (by omega) (by omega)) (by decide) rfl ?_
            refine a_goto (tgt := 7) dX5_mendedBy_87 (by decide) ?_
            subst hs_
            subst hr_
            refine a_lv (lv' := [(5, vI (((i + 1) : Nat) : Int)), (4, vI (if 0 < msT T a (i / 4) b (i % 4) then msT T a (i / 4) b (i % 4) else 0)), (0, vA 63), (1, vI ((a : Nat) : Int)), (2, vI ((b : Nat) : Int)), (3, vI v)]) (by intro q hq; simp only [List.mem_cons, List.not_mem_nil, or_false] at hq ⊢; rcases hq with rfl | rfl | rfl | rfl | rfl | rfl <;> simp) (ih (i + 1) (if 0 < msT T a (i / 4) b (i % 4) then msT T a (i / 4) b (i % 4) else 0) (by omega) (by omega) (LI_y iv (by show (if 0 < msT T a (i / 4) b (i % 4) then msT T a (i / 4) b (i % 4) else 0) ≤ 999; omega) (by show l = -1000000005 ∨ (if 0 < msT T a (i / 4) b (i % 4) then msT T a (i / 4) b (i % 4) else 0) < l; omega) (by show v ≤ mkT T a b (if 0 < msT T a (i / 4) b (i % 4) then msT T a (i / 4) b (i % 4) else 0); omega)))
      · refine a_iload (j := 0) dX5_mendedBy_41 rfl ?_
        refine a_iload (j := 2) dX5_mendedBy_43 rfl ?_
        refine a_icmp_ge (tgt := 52) dX5_mendedBy_45 (by decide) (fun c45_5 => ?_) (fun c45_5 => ?_)
        · refine a_iconst dX5_mendedBy_52 ⟨by decide, by decide⟩ ?_
          refine a_istore (lv' := [(7, vI 0), (6, vI (if 0 < (msT T a s b r) then (msT T a s b r) else 0)), (5, vI ((i : Nat) : Int)), (4, vI l), (0, vA 63), (1, vI ((a : Nat) : Int)), (2, vI ((b : Nat) : Int)), (3, vI v)]) dX5_mendedBy_53 (by decide) rfl ?_
          refine a_iload (j := 1) dX5_mendedBy_55 rfl ?_
          refine a_sipush dX5_mendedBy_57 ⟨by decide, by decide, by decide⟩ ?_
          refine a_icmp_gt (tgt := 84) dX5_mendedBy_60 (by decide) (fun c60_6 => ?_) (fun c60_6 => ?_)
          · refine a_iinc (j := 2) (z' := ((i + 1 : Nat) : Int)) (lv' := [(5, vI ((i + 1 : Nat) : Int)), (7, vI 0), (6, vI (if 0 < (msT T a s b r) then (msT T a s b r) else 0)), (4, vI l), (0, vA 63), (1, vI ((a : Nat) : Int)), (2, vI ((b : Nat) : Int)), (3, vI v)]) dX5_mendedBy_84 rfl (w_okN (by omega) (by omega) (by omega)) (by decide) rfl ?_
            refine a_goto (tgt := 7) dX5_mendedBy_87 (by decide) ?_
            subst hs_
            subst hr_
            refine a_lv (lv' := [(5, vI (((i + 1) : Nat) : Int)), (4, vI l), (0, vA 63), (1, vI ((a : Nat) : Int)), (2, vI ((b : Nat) : Int)), (3, vI v)]) (by intro q hq; simp only [List.mem_cons, List.not_mem_nil, or_false] at hq ⊢; rcases hq with rfl | rfl | rfl | rfl | rfl | rfl <;> simp) (ih (i + 1) l (by omega) (by omega) (LI_n iv (by show ¬ ((if 0 < msT T a (i / 4) b (i % 4) then msT T a (i / 4) b (i % 4) else 0) ≤ 999 ∧ (l = -1000000005 ∨ (if 0 < msT T a (i / 4) b (i % 4) then msT T a (i / 4) b (i % 4) else 0) < l) ∧ v ≤ mkT T a b (if 0 < msT T a (i / 4) b (i % 4) then msT T a (i / 4) b (i % 4) else 0)); omega)))
          · refine a_iload (j := 0) dX5_mendedBy_63 rfl ?_
            refine a_if_eq (tgt := 84) dX5_mendedBy_65 (by decide) (fun _ => ?_) (fun c => absurd c (by decide))
            refine a_iinc (j := 2) (z' := ((i + 1 : Nat) : Int)) (lv' := [(5, vI ((i + 1 : Nat) : Int)), (7, vI 0), (6, vI (if 0 < (msT T a s b r) then (msT T a s b r) else 0)), (4, vI l), (0, vA 63), (1, vI ((a : Nat) : Int)), (2, vI ((b : Nat) : Int)), (3, vI v)]) dX5_mendedBy_84 rfl (w_okN (by omega) (by omega) (by omega)) (by decide) rfl ?_
            refine a_goto (tgt := 7) dX5_mendedBy_87 (by decide) ?_
            subst hs_
            subst hr_
            refine a_lv (lv' := [(5, vI (((i + 1) : Nat) : Int)), (4, vI l), (0, vA 63), (1, vI ((a : Nat) : Int)), (2, vI ((b : Nat) : Int)), (3, vI v)]) (by intro q hq; simp only [List.mem_cons, List.not_mem_nil, or_false] at hq ⊢; rcases hq with rfl | rfl | rfl | rfl | rfl | rfl <;> simp) (ih (i + 1) l (by omega) (by omega) (LI_n iv (by show ¬ ((if 0 < msT T a (i / 4) b (i % 4) then msT T a (i / 4) b (i % 4) else 0) ≤ 999 ∧ (l = -1000000005 ∨ (if 0 < msT T a (i / 4) b (i % 4) then msT T a (i / 4) b (i % 4) else 0) < l) ∧ v ≤ mkT T a b (if 0 < msT T a (i / 4) b (i % 4) then msT T a (i / 4) b (i % 4) else 0)); omega)))
        · refine a_iconst dX5_mendedBy_48 ⟨by decide, by decide⟩ ?_
          refine a_goto (tgt := 53) dX5_mendedBy_49 (by decide) ?_
          refine a_istore (lv' := [(7, vI 1), (6, vI (if 0 < (msT T a s b r) then (msT T a s b r) else 0)), (5, vI ((i : Nat) : Int)), (4, vI l), (0, vA 63), (1, vI ((a : Nat) : Int)), (2, vI ((b : Nat) : Int)), (3, vI v)]) dX5_mendedBy_53 (by decide) rfl ?_
          refine a_iload (j := 1) dX5_mendedBy_55 rfl ?_
          refine a_sipush dX5_mendedBy_57 ⟨by decide, by decide, by decide⟩ ?_
          refine a_icmp_gt (tgt := 84) dX5_mendedBy_60 (by decide) (fun c60_7 => ?_) (fun c60_7 => ?_)
          · refine a_iinc (j := 2) (z' := ((i + 1 : Nat) : Int)) (lv' := [(5, vI ((i + 1 : Nat) : Int)), (7, vI 1), (6, vI (if 0 < (msT T a s b r) then (msT T a s b r) else 0)), (4, vI l), (0, vA 63), (1, vI ((a : Nat) : Int)), (2, vI ((b : Nat) : Int)), (3, vI v)]) dX5_mendedBy_84 rfl (w_okN (by omega) (by omega) (by omega)) (by decide) rfl ?_
            refine a_goto (tgt := 7) dX5_mendedBy_87 (by decide) ?_
            subst hs_
            subst hr_
            refine a_lv (lv' := [(5, vI (((i + 1) : Nat) : Int)), (4, vI l), (0, vA 63), (1, vI ((a : Nat) : Int)), (2, vI ((b : Nat) : Int)), (3, vI v)]) (by intro q hq; simp only [List.mem_cons, List.not_mem_nil, or_false] at hq ⊢; rcases hq with rfl | rfl | rfl | rfl | rfl | rfl <;> simp) (ih (i + 1) l (by omega) (by omega) (LI_n iv (by show ¬ ((if 0 < msT T a (i / 4) b (i % 4) then msT T a (i / 4) b (i % 4) else 0) ≤ 999 ∧ (l = -1000000005 ∨ (if 0 < msT T a (i / 4) b (i % 4) then msT T a (i / 4) b (i % 4) else 0) < l) ∧ v ≤ mkT T a b (if 0 < msT T a (i / 4) b (i % 4) then msT T a (i / 4) b (i % 4) else 0)); omega)))
          · refine a_iload (j := 0) dX5_mendedBy_63 rfl ?_
            refine a_if_eq (tgt := 84) dX5_mendedBy_65 (by decide) (fun c => absurd c (by decide)) (fun _ => ?_)
            refine a_aload_n (j := 4) dX5_mendedBy_68 rfl rfl (Nat.le_of_ble_eq_true rfl) ?_
            refine a_iload_n (j := 5) dX5_mendedBy_69 rfl rfl ?_
            refine a_iload_n (j := 6) dX5_mendedBy_70 rfl rfl ?_
            refine a_iload (j := 1) dX5_mendedBy_71 rfl ?_
            refine b_callV (d' := d - 1) (mc' := 0) (ms' := 0) (mc1 := 0) (ms1 := 0) (st := []) (b := 63) [vI ((a : Nat) : Int), vI ((b : Nat) : Int), vI (if 0 < (msT T a s b r) then (msT T a s b r) else 0)] dX5_mendedBy_73 mwX5_madeOf lkX5_172 (by decide) rfl rc_X5 rfl (Nat.le_of_ble_eq_true rfl) (by omega) rfl rfl (c_X5_madeOf (T := T) (a := a) (b := b) (more := (if 0 < (msT T a s b r) then (msT T a s b r) else 0)) (by omega) hT hTT (by omega) (by omega) ?_)
            show Aj γ mX5_mendedBy d 0 0 Post 76 [(7, vI 1), (6, vI (if 0 < (msT T a s b r) then (msT T a s b r) else 0)), (5, vI ((i : Nat) : Int)), (4, vI l), (0, vA 63), (1, vI ((a : Nat) : Int)), (2, vI ((b : Nat) : Int)), (3, vI v)] [vI (mkT T a b (if 0 < (msT T a s b r) then (msT T a s b r) else 0))] (mk h τ)
            refine a_iload_n (j := 7) dX5_mendedBy_76 rfl rfl ?_
            refine a_icmp_lt (tgt := 84) dX5_mendedBy_77 (by decide) (fun c77_8 => ?_) (fun c77_8 => ?_)
            · refine a_iinc (j := 2) (z' := ((i + 1 : Nat) : Int)) (lv' := [(5, vI ((i + 1 : Nat) : Int)), (7, vI 1), (6, vI (if 0 < (msT T a s b r) then (msT T a s b r) else 0)), (4, vI l), (0, vA 63), (1, vI ((a : Nat) : Int)), (2, vI ((b : Nat) : Int)), (3, vI v)]) dX5_mendedBy_84 rfl (w_okN (by omega) (by omega) (by omega)) (by decide) rfl ?_
              refine a_goto (tgt := 7) dX5_mendedBy_87 (by decide) ?_
              subst hs_
              subst hr_
              refine a_lv (lv' := [(5, vI (((i + 1) : Nat) : Int)), (4, vI l), (0, vA 63), (1, vI ((a : Nat) : Int)), (2, vI ((b : Nat) : Int)), (3, vI v)]) (by intro q hq; simp only [List.mem_cons, List.not_mem_nil, or_false] at hq ⊢; rcases hq with rfl | rfl | rfl | rfl | rfl | rfl <;> simp) (ih (i + 1) l (by omega) (by omega) (LI_n iv (by show ¬ ((if 0 < msT T a (i / 4) b (i % 4) then msT T a (i / 4) b (i % 4) else 0) ≤ 999 ∧ (l = -1000000005 ∨ (if 0 < msT T a (i / 4) b (i % 4) then msT T a (i / 4) b (i % 4) else 0) < l) ∧ v ≤ mkT T a b (if 0 < msT T a (i / 4) b (i % 4) then msT T a (i / 4) b (i % 4) else 0)); omega)))
            · refine a_iload (j := 1) dX5_mendedBy_80 rfl ?_
              refine a_istore (lv' := [(4, vI (if 0 < (msT T a s b r) then (msT T a s b r) else 0)), (7, vI 1), (6, vI (if 0 < (msT T a s b r) then (msT T a s b r) else 0)), (5, vI ((i : Nat) : Int)), (0, vA 63), (1, vI ((a : Nat) : Int)), (2, vI ((b : Nat) : Int)), (3, vI v)]) dX5_mendedBy_82 (by decide) rfl ?_
              refine a_iinc (j := 3) (z' := ((i + 1 : Nat) : Int)) (lv' := [(5, vI ((i + 1 : Nat) : Int)), (4, vI (if 0 < (msT T a s b r) then (msT T a s b r) else 0)), (7, vI 1), (6, vI (if 0 < (msT T a s b r) then (msT T a s b r) else 0)), (0, vA 63), (1, vI ((a : Nat) : Int)), (2, vI ((b : Nat) : Int)), (3, vI v)]) dX5_mendedBy_84 rfl (w_okN (by omega) (by omega) (by omega)) (by decide) rfl ?_
              refine a_goto (tgt := 7) dX5_mendedBy_87 (by decide) ?_
              subst hs_
              subst hr_
              refine a_lv (lv' := [(5, vI (((i + 1) : Nat) : Int)), (4, vI (if 0 < msT T a (i / 4) b (i % 4) then msT T a (i / 4) b (i % 4) else 0)), (0, vA 63), (1, vI ((a : Nat) : Int)), (2, vI ((b : Nat) : Int)), (3, vI v)]) (by intro q hq; simp only [List.mem_cons, List.not_mem_nil, or_false] at hq ⊢; rcases hq with rfl | rfl | rfl | rfl | rfl | rfl <;> simp) (ih (i + 1) (if 0 < msT T a (i / 4) b (i % 4) then msT T a (i / 4) b (i % 4) else 0) (by omega) (by omega) (LI_y iv (by show (if 0 < msT T a (i / 4) b (i % 4) then msT T a (i / 4) b (i % 4) else 0) ≤ 999; omega) (by show l = -1000000005 ∨ (if 0 < msT T a (i / 4) b (i % 4) then msT T a (i / 4) b (i % 4) else 0) < l; omega) (by show v ≤ mkT T a b (if 0 < msT T a (i / 4) b (i % 4) then msT T a (i / 4) b (i % 4) else 0); omega)))
theorem c_X5_mendedBy {γ : GT} {d : Nat} {T : Nat → Nat → Int} {a b : Nat} {v : Int} {h : Nat → Nat → Int} {τ : List AC} {Post : Option AV → List AC → Prop} (hd : 3 ≤ d) (hT : tOK T) (hTT : TT h T) (ha : (a : Int) < T 0 2) (hb : (b : Int) < T 0 2) (hv : 1 ≤ v) (kQ : Post (some (vI (fndV (mdP T a b v) 0 1000))) (mk h τ)) : Cj γ mX5_mendedBy d 0 0 [vA 63, vI ((a : Nat) : Int), vI ((b : Nat) : Int), vI v] (mk h τ) Post := by
  refine c_of (by decide) (Nat.le_of_ble_eq_true rfl) ?_
  show Aj γ mX5_mendedBy d 0 0 Post 0 [(0, vA 63), (1, vI ((a : Nat) : Int)), (2, vI ((b : Nat) : Int)), (3, vI v)] [] (mk h τ)
  refine a_ldc (z := (-1000000005)) dX5_mendedBy_0 kwX5_171 ⟨by decide, by decide, by decide⟩ ?_
  refine a_istore (lv' := [(4, vI (-1000000005)), (0, vA 63), (1, vI ((a : Nat) : Int)), (2, vI ((b : Nat) : Int)), (3, vI v)]) dX5_mendedBy_2 (by decide) rfl ?_
  refine a_iconst dX5_mendedBy_4 ⟨by decide, by decide⟩ ?_
  refine a_istore (lv' := [(5, vI 0), (4, vI (-1000000005)), (0, vA 63), (1, vI ((a : Nat) : Int)), (2, vI ((b : Nat) : Int)), (3, vI v)]) dX5_mendedBy_5 (by decide) rfl ?_
  exact a_lv (lv' := [(5, vI ((0 : Nat) : Int)), (4, vI (-1000000005)), (0, vA 63), (1, vI ((a : Nat) : Int)), (2, vI ((b : Nat) : Int)), (3, vI v)]) (by intro q hq; simp only [List.mem_cons, List.not_mem_nil, or_false] at hq ⊢; rcases hq with rfl | rfl | rfl | rfl | rfl | rfl <;> simp) (l_mended hd hT hTT ha hb hv kQ 17 0 (-1000000005) (by omega) (by omega) ⟨Or.inl rfl, fun p hp => by omega⟩)
set_option maxHeartbeats 8000000 in
theorem l_mends9 {γ : GT} {d : Nat} {T : Nat → Nat → Int} {a b : Nat} {v : Int} {h : Nat → Nat → Int} {τ : List AC} {Post : Option AV → List AC → Prop} (hd : 3 ≤ d) (hT : tOK T) (hRT : RT h T) (ha : (a : Int) < T 0 2) (hb : (b : Int) < T 0 2) (kQ : Post (some (vI (fndV (mdP T a b v) 0 1000))) (mk h τ)) :
    ∀ (f i : Nat) , i ≤ 1000 → 1000 < i + f → (fndV (mdP T a b v) 0 1000 = fndV (mdP T a b v) i 1000) → Aj γ mX9_mends d 0 0 Post 48 [(4, vI ((i : Nat) : Int)), (0, vA 123), (1, vI ((a : Nat) : Int)), (2, vI ((b : Nat) : Int)), (3, vI v)] [] (mk h τ) := by
  intro f
  induction f with
  | zero => intro i  h1_ h2_; omega
  | succ f ih =>
    intro i  h1_ h2_ iv
    refine a_iload (j := 0) dX9_mends_48 rfl ?_
    refine a_sipush dX9_mends_50 ⟨by decide, by decide, by decide⟩ ?_
    refine a_icmp_ge (tgt := 77) dX9_mends_53 (by decide) (fun c53_1 => ?_) (fun c53_1 => ?_)
    · refine a_ldc (z := (-1000000005)) dX9_mends_77 kwX9_115 ⟨by decide, by decide, by decide⟩ ?_
      exact a_iret dX9_mends_79 rfl (post_v kQ (iv.trans (fnd_0 (by omega))))
    · refine a_aload_n (j := 1) dX9_mends_56 rfl rfl (Nat.le_of_ble_eq_true rfl) ?_
      refine a_iload_n (j := 2) dX9_mends_57 rfl rfl ?_
      refine a_iload_n (j := 3) dX9_mends_58 rfl rfl ?_
      refine a_iload (j := 0) dX9_mends_59 rfl ?_
      refine b_callV (d' := d - 1) (mc' := 0) (ms' := 0) (mc1 := 0) (ms1 := 0) (st := []) (b := 123) [vI ((a : Nat) : Int), vI ((b : Nat) : Int), vI ((i : Nat) : Int)] dX9_mends_61 mwX9_makesBy lkX9_186 (by decide) rfl rc_X9 rfl (Nat.le_of_ble_eq_true rfl) (by omega) rfl rfl (c_X9_makesBy (T := T) (a := a) (b := b) (more := ((i : Nat) : Int)) (by omega) hT hRT (by omega) (by omega) (by omega) ?_)
      show Aj γ mX9_mends d 0 0 Post 64 [(4, vI ((i : Nat) : Int)), (0, vA 123), (1, vI ((a : Nat) : Int)), (2, vI ((b : Nat) : Int)), (3, vI v)] [vI (mkT T a b ((i : Nat) : Int))] (mk h τ)
      refine a_iload_n (j := 4) dX9_mends_64 rfl rfl ?_
      refine a_icmp_lt (tgt := 71) dX9_mends_65 (by decide) (fun c65_2 => ?_) (fun c65_2 => ?_)
      · refine a_iinc (j := 0) (z' := ((i + 1 : Nat) : Int)) (lv' := [(4, vI ((i + 1 : Nat) : Int)), (0, vA 123), (1, vI ((a : Nat) : Int)), (2, vI ((b : Nat) : Int)), (3, vI v)]) dX9_mends_71 rfl (w_okN (by omega) (by omega) (by omega)) (by decide) rfl ?_
        refine a_goto (tgt := 48) dX9_mends_74 (by decide) ?_
        refine a_lv (lv' := [(4, vI (((i + 1) : Nat) : Int)), (0, vA 123), (1, vI ((a : Nat) : Int)), (2, vI ((b : Nat) : Int)), (3, vI v)]) (by intro q hq; simp only [List.mem_cons, List.not_mem_nil, or_false] at hq ⊢; rcases hq with rfl | rfl | rfl | rfl | rfl <;> simp) (ih (i + 1)  (by omega) (by omega) (iv.trans (fnd_s (fun e => by have e : v ≤ mkT T a b ((i : Nat) : Int) := e; omega))))
      · refine a_iload (j := 0) dX9_mends_68 rfl ?_
        exact a_iret dX9_mends_70 rfl (post_v kQ (iv.trans (fnd_h (by omega) (show v ≤ mkT T a b ((i : Nat) : Int) by omega))))
/-! NEVER -/
def nvS (T : Nat → Nat → Int) (a : Nat) (p : Int × Int) (b : Nat) : Int × Int := if ¬ a = b ∧ T 2 b = T 3 a ∧ mkT T a b 0 = 0 then (p.1 + 1, if p.1 = 0 then 100 * (a : Int) + b else p.2) else p
def nvB (T : Nat → Nat → Int) (a : Nat) (p : Int × Int) : Nat → Int × Int
  | 0 => p
  | b + 1 => nvS T a (nvB T a p b) b
def nvA (T : Nat → Nat → Int) (n : Nat) : Nat → Int × Int
  | 0 => (0, -1000000005)
  | a + 1 => nvB T a (nvA T n a) n
def nvI (c : Int) (x y : Int) : Prop := 0 ≤ x ∧ x ≤ c ∧ ((x = 0 ∧ y = -1000000005) ∨ (0 < x ∧ 0 ≤ y))
theorem nv_y {T : Nat → Nat → Int} {a b : Nat} {p : Int × Int} {x y : Int} (h : nvB T a p b = (x, y)) (h1 : ¬ a = b ∧ T 2 b = T 3 a ∧ mkT T a b 0 = 0) : nvB T a p (b + 1) = (x + 1, if x = 0 then 100 * (a : Int) + b else y) := by
  show nvS T a (nvB T a p b) b = _
  unfold nvS
  rw [h, if_pos h1]
theorem nv_n {T : Nat → Nat → Int} {a b : Nat} {p : Int × Int} {x y : Int} (h : nvB T a p b = (x, y)) (h1 : ¬ (¬ a = b ∧ T 2 b = T 3 a ∧ mkT T a b 0 = 0)) : nvB T a p (b + 1) = (x, y) := by
  show nvS T a (nvB T a p b) b = _
  unfold nvS
  rw [h, if_neg h1]
set_option maxHeartbeats 8000000 in
theorem l_nvIX {γ : GT} {d : Nat} {T : Nat → Nat → Int} {n a : Nat} {q : Int} {p : Int × Int} {h : Nat → Nat → Int} {τ : List AC} {Post : Option AV → List AC → Prop} (hd : 3 ≤ d) (hT : tOK T) (hTT : TT h T) (hn : T 0 2 = ((n : Nat) : Int)) (hn3 : h 1 3 = ((n : Nat) : Int)) (ha : a < n) (kE : ∀ (z x y : Int), nvB T a p n = (x, y) → nvI (12 * (a : Int) + n) x y → Aj γ mX8_never d 0 0 Post 122 [(5, vI z), (2, vI x), (3, vI y), (4, vI ((a : Nat) : Int)), (0, vA 0), (1, vI q)] [] (mk h τ)) :
    ∀ (f i : Nat) (x : Int) (y : Int), i ≤ n → n < i + f → (nvB T a p i = (x, y)) → (nvI (12 * (a : Int) + i) x y) → Aj γ mX8_never d 0 0 Post 46 [(5, vI ((i : Nat) : Int)), (2, vI x), (3, vI y), (4, vI ((a : Nat) : Int)), (0, vA 0), (1, vI q)] [] (mk h τ) := by
  intro f
  induction f with
  | zero => intro i x y h1_ h2_; omega
  | succ f ih =>
    intro i x y h1_ h2_ iv ii
    have h2_ := hT.2.2.1
    have hii := ii
    unfold nvI at hii
    refine a_iload (j := 0) dX8_never_46 rfl ?_
    refine a_aload_n (j := 4) dX8_never_48 rfl rfl (Nat.le_of_ble_eq_true rfl) ?_
    refine b_getp (a := 0) (p := 1) dX8_never_49 fwX8_14 (by decide) rfl (by decide) rfl rfl ?_
    refine b_get (a := 1) (z := ((n : Nat) : Int)) (t := 0) dX8_never_52 fwX8_102 (by decide) rfl (by decide) rfl rfl hn3 ?_
    refine a_icmp_ge (tgt := 122) dX8_never_55 (by decide) (fun c55_1 => ?_) (fun c55_1 => ?_)
    · obtain rfl : i = n := (by omega)
      exact kE _ _ _ iv ii
    · refine a_iload (j := 3) dX8_never_58 rfl ?_
      refine a_iload (j := 0) dX8_never_60 rfl ?_
      refine a_icmp_eq (tgt := 116) dX8_never_62 (by decide) (fun c62_2 => ?_) (fun c62_2 => ?_)
      · refine a_iinc (j := 0) (z' := ((i + 1 : Nat) : Int)) (lv' := [(5, vI ((i + 1 : Nat) : Int)), (2, vI x), (3, vI y), (4, vI ((a : Nat) : Int)), (0, vA 0), (1, vI q)]) dX8_never_116 rfl (w_okN (by omega) (by omega) (by omega)) (by decide) rfl ?_
        refine a_goto (tgt := 46) dX8_never_119 (by decide) ?_
        refine a_lv (lv' := [(5, vI (((i + 1) : Nat) : Int)), (2, vI x), (3, vI y), (4, vI ((a : Nat) : Int)), (0, vA 0), (1, vI q)]) (by intro q hq; simp only [List.mem_cons, List.not_mem_nil, or_false] at hq ⊢; rcases hq with rfl | rfl | rfl | rfl | rfl | rfl <;> simp) (ih (i + 1) x y (by omega) (by omega) (nv_n iv (by omega)) (by unfold nvI at ii ⊢; omega))
      · refine a_aload_n (j := 4) dX8_never_65 rfl rfl (Nat.le_of_ble_eq_true rfl) ?_
        refine b_getp (a := 0) (p := 63) dX8_never_66 fwX8_24 (by decide) rfl (by decide) rfl rfl ?_
        refine a_iload (j := 3) dX8_never_69 rfl ?_
        refine a_iload (j := 0) dX8_never_71 rfl ?_
        refine b_callV (d' := d - 1) (mc' := 0) (ms' := 0) (mc1 := 0) (ms1 := 0) (st := []) (b := 63) [vI ((a : Nat) : Int), vI ((i : Nat) : Int)] dX8_never_73 mwX5_joins lkX8_169 (by decide) rfl rc_X5 rfl (Nat.le_of_ble_eq_true rfl) (by omega) rfl rfl (c_X5_joins (v1 := (T 2 i)) (v2 := (T 3 a)) (by omega)  ((congrArg (h 65) (show (Int.toNat ((i : Nat) : Int)) = i by omega)).trans (hTT.2.2.1 i (by omega)).1) ((congrArg (h 66) (show (Int.toNat ((a : Nat) : Int)) = a by omega)).trans (hTT.2.2.1 a (by omega)).2.1) (show 0 ≤ ((a : Nat) : Int) ∧ ((a : Nat) : Int) ≤ 11 by omega) (show 0 ≤ ((i : Nat) : Int) ∧ ((i : Nat) : Int) ≤ 11 by omega) (fun t73_3 => ?_) (fun t73_3 => ?_))
        · have t73_3 : (T 2 i) = (T 3 a) := t73_3
          show Aj γ mX8_never d 0 0 Post 76 [(5, vI ((i : Nat) : Int)), (2, vI x), (3, vI y), (4, vI ((a : Nat) : Int)), (0, vA 0), (1, vI q)] [vI 1] (mk h τ)
          refine a_if_eq (tgt := 116) dX8_never_76 (by decide) (fun c => absurd c (by decide)) (fun _ => ?_)
          refine a_aload_n (j := 4) dX8_never_79 rfl rfl (Nat.le_of_ble_eq_true rfl) ?_
          refine b_getp (a := 0) (p := 63) dX8_never_80 fwX8_24 (by decide) rfl (by decide) rfl rfl ?_
          refine a_iload (j := 3) dX8_never_83 rfl ?_
          refine a_iload (j := 0) dX8_never_85 rfl ?_
          refine a_iconst dX8_never_87 ⟨by decide, by decide⟩ ?_
          refine b_callV (d' := d - 1) (mc' := 0) (ms' := 0) (mc1 := 0) (ms1 := 0) (st := []) (b := 63) [vI ((a : Nat) : Int), vI ((i : Nat) : Int), vI 0] dX8_never_88 mwX5_madeOf lkX8_172 (by decide) rfl rc_X5 rfl (Nat.le_of_ble_eq_true rfl) (by omega) rfl rfl (c_X5_madeOf (T := T) (a := a) (b := i) (more := 0) (by omega) hT hTT (by omega) (by omega) ?_)
          show Aj γ mX8_never d 0 0 Post 91 [(5, vI ((i : Nat) : Int)), (2, vI x), (3, vI y), (4, vI ((a : Nat) : Int)), (0, vA 0), (1, vI q)] [vI (mkT T a i 0)] (mk h τ)
          refine a_if_ne (tgt := 116) dX8_never_91 (by decide) (fun c91_4 => ?_) (fun c91_4 => ?_)
          · refine a_iinc (j := 0) (z' := ((i + 1 : Nat) : Int)) (lv' := [(5, vI ((i + 1 : Nat) : Int)), (2, vI x), (3, vI y), (4, vI ((a : Nat) : Int)), (0, vA 0), (1, vI q)]) dX8_never_116 rfl (w_okN (by omega) (by omega) (by omega)) (by decide) rfl ?_
            refine a_goto (tgt := 46) dX8_never_119 (by decide) ?_
            refine a_lv (lv' := [(5, vI (((i + 1) : Nat) : Int)), (2, vI x), (3, vI y), (4, vI ((a : Nat) : Int)), (0, vA 0), (1, vI q)]) (by intro q hq; simp only [List.mem_cons, List.not_mem_nil, or_false] at hq ⊢; rcases hq with rfl | rfl | rfl | rfl | rfl | rfl <;> simp) (ih (i + 1) x y (by omega) (by omega) (nv_n iv (by omega)) (by unfold nvI at ii ⊢; omega))
          · refine a_iinc (j := 1) (z' := (x + 1)) (lv' := [(2, vI (x + 1)), (5, vI ((i : Nat) : Int)), (3, vI y), (4, vI ((a : Nat) : Int)), (0, vA 0), (1, vI q)]) dX8_never_94 rfl (w_ok (by omega) (by omega)) (by decide) rfl ?_
            refine a_iload_n (j := 2) dX8_never_97 rfl rfl ?_
            refine a_ldc (z := (-1000000005)) dX8_never_98 kwX8_159 ⟨by decide, by decide, by decide⟩ ?_
            refine a_icmp_ne (tgt := 114) dX8_never_100 (by decide) (fun c100_5 => ?_) (fun c100_5 => ?_)
            · refine a_iload_n (j := 2) dX8_never_114 rfl rfl ?_
              refine a_istore_n (lv' := [(3, vI y), (2, vI (x + 1)), (5, vI ((i : Nat) : Int)), (4, vI ((a : Nat) : Int)), (0, vA 0), (1, vI q)]) dX8_never_115 rfl (by decide) rfl ?_
              refine a_iinc (j := 2) (z' := ((i + 1 : Nat) : Int)) (lv' := [(5, vI ((i + 1 : Nat) : Int)), (3, vI y), (2, vI (x + 1)), (4, vI ((a : Nat) : Int)), (0, vA 0), (1, vI q)]) dX8_never_116 rfl (w_okN (by omega) (by omega) (by omega)) (by decide) rfl ?_
              refine a_goto (tgt := 46) dX8_never_119 (by decide) ?_
              refine a_lv (lv' := [(5, vI (((i + 1) : Nat) : Int)), (2, vI (x + 1)), (3, vI y), (4, vI ((a : Nat) : Int)), (0, vA 0), (1, vI q)]) (by intro q hq; simp only [List.mem_cons, List.not_mem_nil, or_false] at hq ⊢; rcases hq with rfl | rfl | rfl | rfl | rfl | rfl <;> simp) (ih (i + 1) (x + 1) y (by omega) (by omega) (by rw [nv_y iv (by omega)]; refine Prod.ext (by first | rfl | (show _ = _; omega)) ?_; show (if x = 0 then 100 * (a : Int) + i else y) = _; first | (rw [if_pos (by omega)] <;> omega) | (rw [if_neg (by omega)] <;> omega)) (by unfold nvI at ii ⊢; omega))
            · refine a_bipush dX8_never_103 ⟨by decide, by decide, by decide⟩ ?_
              refine a_iload (j := 3) dX8_never_105 rfl ?_
              refine a_imul (z := (100 * ((a : Nat) : Int))) dX8_never_107 (w_ok (by omega) (by omega)) ?_
              refine a_iload (j := 1) dX8_never_108 rfl ?_
              refine a_iadd (z := ((100 * ((a : Nat) : Int)) + ((i : Nat) : Int))) dX8_never_110 (w_ok (by omega) (by omega)) ?_
              refine a_goto (tgt := 115) dX8_never_111 (by decide) ?_
              refine a_istore_n (lv' := [(3, vI ((100 * ((a : Nat) : Int)) + ((i : Nat) : Int))), (2, vI (x + 1)), (5, vI ((i : Nat) : Int)), (4, vI ((a : Nat) : Int)), (0, vA 0), (1, vI q)]) dX8_never_115 rfl (by decide) rfl ?_
              refine a_iinc (j := 2) (z' := ((i + 1 : Nat) : Int)) (lv' := [(5, vI ((i + 1 : Nat) : Int)), (3, vI ((100 * ((a : Nat) : Int)) + ((i : Nat) : Int))), (2, vI (x + 1)), (4, vI ((a : Nat) : Int)), (0, vA 0), (1, vI q)]) dX8_never_116 rfl (w_okN (by omega) (by omega) (by omega)) (by decide) rfl ?_
              refine a_goto (tgt := 46) dX8_never_119 (by decide) ?_
              refine a_lv (lv' := [(5, vI (((i + 1) : Nat) : Int)), (2, vI (x + 1)), (3, vI ((100 * ((a : Nat) : Int)) + ((i : Nat) : Int))), (4, vI ((a : Nat) : Int)), (0, vA 0), (1, vI q)]) (by intro q hq; simp only [List.mem_cons, List.not_mem_nil, or_false] at hq ⊢; rcases hq with rfl | rfl | rfl | rfl | rfl | rfl <;> simp) (ih (i + 1) (x + 1) ((100 * ((a : Nat) : Int)) + ((i : Nat) : Int)) (by omega) (by omega) (by rw [nv_y iv (by omega)]; refine Prod.ext (by first | rfl | (show _ = _; omega)) ?_; show (if x = 0 then 100 * (a : Int) + i else y) = _; first | (rw [if_pos (by omega)] <;> omega) | (rw [if_neg (by omega)] <;> omega)) (by unfold nvI at ii ⊢; omega))
        · have t73_3 : ¬ ((T 2 i) = (T 3 a)) := t73_3
          show Aj γ mX8_never d 0 0 Post 76 [(5, vI ((i : Nat) : Int)), (2, vI x), (3, vI y), (4, vI ((a : Nat) : Int)), (0, vA 0), (1, vI q)] [vI 0] (mk h τ)
          refine a_if_eq (tgt := 116) dX8_never_76 (by decide) (fun _ => ?_) (fun c => absurd c (by decide))
          refine a_iinc (j := 0) (z' := ((i + 1 : Nat) : Int)) (lv' := [(5, vI ((i + 1 : Nat) : Int)), (2, vI x), (3, vI y), (4, vI ((a : Nat) : Int)), (0, vA 0), (1, vI q)]) dX8_never_116 rfl (w_okN (by omega) (by omega) (by omega)) (by decide) rfl ?_
          refine a_goto (tgt := 46) dX8_never_119 (by decide) ?_
          refine a_lv (lv' := [(5, vI (((i + 1) : Nat) : Int)), (2, vI x), (3, vI y), (4, vI ((a : Nat) : Int)), (0, vA 0), (1, vI q)]) (by intro q hq; simp only [List.mem_cons, List.not_mem_nil, or_false] at hq ⊢; rcases hq with rfl | rfl | rfl | rfl | rfl | rfl <;> simp) (ih (i + 1) x y (by omega) (by omega) (nv_n iv (by omega)) (by unfold nvI at ii ⊢; omega))
set_option maxHeartbeats 8000000 in
theorem l_nvAX {γ : GT} {d : Nat} {T : Nat → Nat → Int} {n : Nat} {q : Int} {h : Nat → Nat → Int} {τ : List AC} {Post : Option AV → List AC → Prop} (hd : 3 ≤ d) (hT : tOK T) (hTT : TT h T) (hn : T 0 2 = ((n : Nat) : Int)) (hn3 : h 1 3 = ((n : Nat) : Int)) (kQ : Post (some (vI (if q = 0 then (nvA T n n).1 else (nvA T n n).2))) (mk h τ)) :
    ∀ (f i : Nat) (x : Int) (y : Int), i ≤ n → n < i + f → (nvA T n i = (x, y)) → (nvI (12 * (i : Int)) x y) → Aj γ mX8_never d 0 0 Post 31 [(4, vI ((i : Nat) : Int)), (2, vI x), (3, vI y), (0, vA 0), (1, vI q)] [] (mk h τ) := by
  intro f
  induction f with
  | zero => intro i x y h1_ h2_; omega
  | succ f ih =>
    intro i x y h1_ h2_ iv ii
    have h2_ := hT.2.2.1
    refine a_iload (j := 0) dX8_never_31 rfl ?_
    refine a_aload_n (j := 3) dX8_never_33 rfl rfl (Nat.le_of_ble_eq_true rfl) ?_
    refine b_getp (a := 0) (p := 1) dX8_never_34 fwX8_14 (by decide) rfl (by decide) rfl rfl ?_
    refine b_get (a := 1) (z := ((n : Nat) : Int)) (t := 0) dX8_never_37 fwX8_102 (by decide) rfl (by decide) rfl rfl hn3 ?_
    refine a_icmp_ge (tgt := 128) dX8_never_40 (by decide) (fun c40_1 => ?_) (fun c40_1 => ?_)
    · refine a_iload_n (j := 4) dX8_never_128 rfl rfl ?_
      refine a_if_ne (tgt := 136) dX8_never_129 (by decide) (fun c129_2 => ?_) (fun c129_2 => ?_)
      · refine a_iload_n (j := 2) dX8_never_136 rfl rfl ?_
        exact a_iret dX8_never_137 rfl (by obtain rfl : i = n := (by omega); exact post_v kQ (by rw [iv]; first | (rw [if_pos (by omega)]; done) | (rw [if_neg (by omega)]; done) | (exfalso; omega)))
      · refine a_iload_n (j := 1) dX8_never_132 rfl rfl ?_
        refine a_goto (tgt := 137) dX8_never_133 (by decide) ?_
        exact a_iret dX8_never_137 rfl (by obtain rfl : i = n := (by omega); exact post_v kQ (by rw [iv]; first | (rw [if_pos (by omega)]; done) | (rw [if_neg (by omega)]; done) | (exfalso; omega)))
    · refine a_iconst dX8_never_43 ⟨by decide, by decide⟩ ?_
      refine a_istore (lv' := [(5, vI 0), (4, vI ((i : Nat) : Int)), (2, vI x), (3, vI y), (0, vA 0), (1, vI q)]) dX8_never_44 (by decide) rfl ?_
      refine a_lv (lv' := [(5, vI ((0 : Nat) : Int)), (2, vI x), (3, vI y), (4, vI ((i : Nat) : Int)), (0, vA 0), (1, vI q)]) (by intro q hq; simp only [List.mem_cons, List.not_mem_nil, or_false] at hq ⊢; rcases hq with rfl | rfl | rfl | rfl | rfl | rfl <;> simp) (l_nvIX (p := (x, y)) (a := i) hd hT hTT hn hn3 (by omega) ?_ (n + 1) 0 x y (by omega) (by omega) rfl (by unfold nvI at ii ⊢; omega))
      intro z7 x7 y7 b7 i7
      refine a_iinc (j := 3) (z' := ((i + 1 : Nat) : Int)) (lv' := [(4, vI ((i + 1 : Nat) : Int)), (5, vI z7), (2, vI x7), (3, vI y7), (0, vA 0), (1, vI q)]) dX8_never_122 rfl (w_okN (by omega) (by omega) (by omega)) (by decide) rfl ?_
      refine a_goto (tgt := 31) dX8_never_125 (by decide) ?_
      refine a_lv (lv' := [(4, vI (((i + 1) : Nat) : Int)), (2, vI x7), (3, vI y7), (0, vA 0), (1, vI q)]) (by intro q hq; simp only [List.mem_cons, List.not_mem_nil, or_false] at hq ⊢; rcases hq with rfl | rfl | rfl | rfl | rfl <;> simp) (ih (i + 1) x7 y7 (by omega) (by omega) (by show nvB T i (nvA T n i) n = _; rw [iv]; exact b7) (by unfold nvI at i7 ⊢; omega))
set_option maxHeartbeats 8000000 in
theorem l_nvIR {γ : GT} {d : Nat} {T : Nat → Nat → Int} {n a : Nat} {q : Int} {p : Int × Int} {h : Nat → Nat → Int} {τ : List AC} {Post : Option AV → List AC → Prop} (hd : 3 ≤ d) (hT : tOK T) (hRT : RT h T) (hn : T 0 2 = ((n : Nat) : Int)) (ha : a < n) (kE : ∀ (z x y : Int), nvB T a p n = (x, y) → nvI (12 * (a : Int) + n) x y → Aj γ mX9_never d 0 0 Post 111 [(5, vI z), (2, vI x), (3, vI y), (4, vI ((a : Nat) : Int)), (0, vA 123), (1, vI q)] [] (mk h τ)) :
    ∀ (f i : Nat) (x : Int) (y : Int), i ≤ n → n < i + f → (nvB T a p i = (x, y)) → (nvI (12 * (a : Int) + i) x y) → Aj γ mX9_never d 0 0 Post 38 [(5, vI ((i : Nat) : Int)), (2, vI x), (3, vI y), (4, vI ((a : Nat) : Int)), (0, vA 123), (1, vI q)] [] (mk h τ) := by
  intro f
  induction f with
  | zero => intro i x y h1_ h2_; omega
  | succ f ih =>
    intro i x y h1_ h2_ iv ii
    have h2_ := hT.2.2.1
    have hii := ii
    unfold nvI at hii
    refine a_iload (j := 0) dX9_never_38 rfl ?_
    refine a_aload_n (j := 4) dX9_never_40 rfl rfl (Nat.le_of_ble_eq_true rfl) ?_
    refine b_getp (a := 123) (p := 124) dX9_never_41 fwX9_9 (by decide) rfl (by decide) rfl rfl ?_
    refine a_iconst dX9_never_44 ⟨by decide, by decide⟩ ?_
    refine b_iaload (a := 124) (z := ((n : Nat) : Int)) 5 dX9_never_45 (by decide) rfl rfl (by decide) rfl (hRT.1.1.2.2.1.trans hn) (fun r45_1 => ?_)
    refine a_icmp_ge (tgt := 111) dX9_never_46 (by decide) (fun c46_2 => ?_) (fun c46_2 => ?_)
    · obtain rfl : i = n := (by omega)
      exact kE _ _ _ iv ii
    · refine a_iload (j := 3) dX9_never_49 rfl ?_
      refine a_iload (j := 0) dX9_never_51 rfl ?_
      refine a_icmp_eq (tgt := 105) dX9_never_53 (by decide) (fun c53_3 => ?_) (fun c53_3 => ?_)
      · refine a_iinc (j := 0) (z' := ((i + 1 : Nat) : Int)) (lv' := [(5, vI ((i + 1 : Nat) : Int)), (2, vI x), (3, vI y), (4, vI ((a : Nat) : Int)), (0, vA 123), (1, vI q)]) dX9_never_105 rfl (w_okN (by omega) (by omega) (by omega)) (by decide) rfl ?_
        refine a_goto (tgt := 38) dX9_never_108 (by decide) ?_
        refine a_lv (lv' := [(5, vI (((i + 1) : Nat) : Int)), (2, vI x), (3, vI y), (4, vI ((a : Nat) : Int)), (0, vA 123), (1, vI q)]) (by intro q hq; simp only [List.mem_cons, List.not_mem_nil, or_false] at hq ⊢; rcases hq with rfl | rfl | rfl | rfl | rfl | rfl <;> simp) (ih (i + 1) x y (by omega) (by omega) (nv_n iv (by omega)) (by unfold nvI at ii ⊢; omega))
      · refine a_aload_n (j := 4) dX9_never_56 rfl rfl (Nat.le_of_ble_eq_true rfl) ?_
        refine a_iload (j := 3) dX9_never_57 rfl ?_
        refine a_iconst dX9_never_59 ⟨by decide, by decide⟩ ?_
        refine b_callV (d' := d - 1) (mc' := 0) (ms' := 0) (mc1 := 0) (ms1 := 0) (st := []) (b := 123) [vI ((a : Nat) : Int), vI 2] dX9_never_60 mwX9_of lkX9_107 (by decide) rfl rc_X9 rfl (Nat.le_of_ble_eq_true rfl) (by omega) rfl rfl (c_X9_of (v1 := (T 3 a)) (by omega)  ((congrArg (h 124) (show (Int.toNat ((15 + (11 * ((a : Nat) : Int))) + 2)) = (17 + 11 * a) by omega)).trans (hRT.1.2 a (by omega)).2.1) (show 0 ≤ ((a : Nat) : Int) ∧ ((a : Nat) : Int) ≤ 11 ∧ 0 ≤ 2 ∧ 2 ≤ 10 by omega) ?_)
        show Aj γ mX9_never d 0 0 Post 63 [(5, vI ((i : Nat) : Int)), (2, vI x), (3, vI y), (4, vI ((a : Nat) : Int)), (0, vA 123), (1, vI q)] [vI (T 3 a)] (mk h τ)
        refine a_aload_n (j := 4) dX9_never_63 rfl rfl (Nat.le_of_ble_eq_true rfl) ?_
        refine a_iload (j := 0) dX9_never_64 rfl ?_
        refine a_iconst dX9_never_66 ⟨by decide, by decide⟩ ?_
        refine b_callV (d' := d - 1) (mc' := 0) (ms' := 0) (mc1 := 0) (ms1 := 0) (st := [vI (T 3 a)]) (b := 123) [vI ((i : Nat) : Int), vI 1] dX9_never_67 mwX9_of lkX9_107 (by decide) rfl rc_X9 rfl (Nat.le_of_ble_eq_true rfl) (by omega) rfl rfl (c_X9_of (v1 := (T 2 i)) (by omega)  ((congrArg (h 124) (show (Int.toNat ((15 + (11 * ((i : Nat) : Int))) + 1)) = (16 + 11 * i) by omega)).trans (hRT.1.2 i (by omega)).1) (show 0 ≤ ((i : Nat) : Int) ∧ ((i : Nat) : Int) ≤ 11 ∧ 0 ≤ 1 ∧ 1 ≤ 10 by omega) ?_)
        show Aj γ mX9_never d 0 0 Post 70 [(5, vI ((i : Nat) : Int)), (2, vI x), (3, vI y), (4, vI ((a : Nat) : Int)), (0, vA 123), (1, vI q)] [vI (T 2 i), vI (T 3 a)] (mk h τ)
        refine a_icmp_ne (tgt := 105) dX9_never_70 (by decide) (fun c70_4 => ?_) (fun c70_4 => ?_)
        · refine a_iinc (j := 0) (z' := ((i + 1 : Nat) : Int)) (lv' := [(5, vI ((i + 1 : Nat) : Int)), (2, vI x), (3, vI y), (4, vI ((a : Nat) : Int)), (0, vA 123), (1, vI q)]) dX9_never_105 rfl (w_okN (by omega) (by omega) (by omega)) (by decide) rfl ?_
          refine a_goto (tgt := 38) dX9_never_108 (by decide) ?_
          refine a_lv (lv' := [(5, vI (((i + 1) : Nat) : Int)), (2, vI x), (3, vI y), (4, vI ((a : Nat) : Int)), (0, vA 123), (1, vI q)]) (by intro q hq; simp only [List.mem_cons, List.not_mem_nil, or_false] at hq ⊢; rcases hq with rfl | rfl | rfl | rfl | rfl | rfl <;> simp) (ih (i + 1) x y (by omega) (by omega) (nv_n iv (by omega)) (by unfold nvI at ii ⊢; omega))
        · refine a_aload_n (j := 4) dX9_never_73 rfl rfl (Nat.le_of_ble_eq_true rfl) ?_
          refine a_iload (j := 3) dX9_never_74 rfl ?_
          refine a_iload (j := 0) dX9_never_76 rfl ?_
          refine a_iconst dX9_never_78 ⟨by decide, by decide⟩ ?_
          refine b_callV (d' := d - 1) (mc' := 0) (ms' := 0) (mc1 := 0) (ms1 := 0) (st := []) (b := 123) [vI ((a : Nat) : Int), vI ((i : Nat) : Int), vI 0] dX9_never_79 mwX9_makesBy lkX9_186 (by decide) rfl rc_X9 rfl (Nat.le_of_ble_eq_true rfl) (by omega) rfl rfl (c_X9_makesBy (T := T) (a := a) (b := i) (more := 0) (by omega) hT hRT (by omega) (by omega) (by omega) ?_)
          show Aj γ mX9_never d 0 0 Post 82 [(5, vI ((i : Nat) : Int)), (2, vI x), (3, vI y), (4, vI ((a : Nat) : Int)), (0, vA 123), (1, vI q)] [vI (mkT T a i 0)] (mk h τ)
          refine a_if_ne (tgt := 105) dX9_never_82 (by decide) (fun c82_5 => ?_) (fun c82_5 => ?_)
          · refine a_iinc (j := 0) (z' := ((i + 1 : Nat) : Int)) (lv' := [(5, vI ((i + 1 : Nat) : Int)), (2, vI x), (3, vI y), (4, vI ((a : Nat) : Int)), (0, vA 123), (1, vI q)]) dX9_never_105 rfl (w_okN (by omega) (by omega) (by omega)) (by decide) rfl ?_
            refine a_goto (tgt := 38) dX9_never_108 (by decide) ?_
            refine a_lv (lv' := [(5, vI (((i + 1) : Nat) : Int)), (2, vI x), (3, vI y), (4, vI ((a : Nat) : Int)), (0, vA 123), (1, vI q)]) (by intro q hq; simp only [List.mem_cons, List.not_mem_nil, or_false] at hq ⊢; rcases hq with rfl | rfl | rfl | rfl | rfl | rfl <;> simp) (ih (i + 1) x y (by omega) (by omega) (nv_n iv (by omega)) (by unfold nvI at ii ⊢; omega))
          · refine a_iload_n (j := 1) dX9_never_85 rfl rfl ?_
            refine a_if_ne (tgt := 100) dX9_never_86 (by decide) (fun c86_6 => ?_) (fun c86_6 => ?_)
            · refine a_iload_n (j := 2) dX9_never_100 rfl rfl ?_
              refine a_istore_n (lv' := [(3, vI y), (5, vI ((i : Nat) : Int)), (2, vI x), (4, vI ((a : Nat) : Int)), (0, vA 123), (1, vI q)]) dX9_never_101 rfl (by decide) rfl ?_
              refine a_iinc (j := 2) (z' := (x + 1)) (lv' := [(2, vI (x + 1)), (3, vI y), (5, vI ((i : Nat) : Int)), (4, vI ((a : Nat) : Int)), (0, vA 123), (1, vI q)]) dX9_never_102 rfl (w_ok (by omega) (by omega)) (by decide) rfl ?_
              refine a_iinc (j := 2) (z' := ((i + 1 : Nat) : Int)) (lv' := [(5, vI ((i + 1 : Nat) : Int)), (2, vI (x + 1)), (3, vI y), (4, vI ((a : Nat) : Int)), (0, vA 123), (1, vI q)]) dX9_never_105 rfl (w_okN (by omega) (by omega) (by omega)) (by decide) rfl ?_
              refine a_goto (tgt := 38) dX9_never_108 (by decide) ?_
              refine a_lv (lv' := [(5, vI (((i + 1) : Nat) : Int)), (2, vI (x + 1)), (3, vI y), (4, vI ((a : Nat) : Int)), (0, vA 123), (1, vI q)]) (by intro q hq; simp only [List.mem_cons, List.not_mem_nil, or_false] at hq ⊢; rcases hq with rfl | rfl | rfl | rfl | rfl | rfl <;> simp) (ih (i + 1) (x + 1) y (by omega) (by omega) (by rw [nv_y iv (by omega)]; refine Prod.ext (by first | rfl | (show _ = _; omega)) ?_; show (if x = 0 then 100 * (a : Int) + i else y) = _; first | (rw [if_pos (by omega)] <;> omega) | (rw [if_neg (by omega)] <;> omega)) (by unfold nvI at ii ⊢; omega))
            · refine a_bipush dX9_never_89 ⟨by decide, by decide, by decide⟩ ?_
              refine a_iload (j := 3) dX9_never_91 rfl ?_
              refine a_imul (z := (100 * ((a : Nat) : Int))) dX9_never_93 (w_ok (by omega) (by omega)) ?_
              refine a_iload (j := 0) dX9_never_94 rfl ?_
              refine a_iadd (z := ((100 * ((a : Nat) : Int)) + ((i : Nat) : Int))) dX9_never_96 (w_ok (by omega) (by omega)) ?_
              refine a_goto (tgt := 101) dX9_never_97 (by decide) ?_
              refine a_istore_n (lv' := [(3, vI ((100 * ((a : Nat) : Int)) + ((i : Nat) : Int))), (5, vI ((i : Nat) : Int)), (2, vI x), (4, vI ((a : Nat) : Int)), (0, vA 123), (1, vI q)]) dX9_never_101 rfl (by decide) rfl ?_
              refine a_iinc (j := 2) (z' := (x + 1)) (lv' := [(2, vI (x + 1)), (3, vI ((100 * ((a : Nat) : Int)) + ((i : Nat) : Int))), (5, vI ((i : Nat) : Int)), (4, vI ((a : Nat) : Int)), (0, vA 123), (1, vI q)]) dX9_never_102 rfl (w_ok (by omega) (by omega)) (by decide) rfl ?_
              refine a_iinc (j := 2) (z' := ((i + 1 : Nat) : Int)) (lv' := [(5, vI ((i + 1 : Nat) : Int)), (2, vI (x + 1)), (3, vI ((100 * ((a : Nat) : Int)) + ((i : Nat) : Int))), (4, vI ((a : Nat) : Int)), (0, vA 123), (1, vI q)]) dX9_never_105 rfl (w_okN (by omega) (by omega) (by omega)) (by decide) rfl ?_
              refine a_goto (tgt := 38) dX9_never_108 (by decide) ?_
              refine a_lv (lv' := [(5, vI (((i + 1) : Nat) : Int)), (2, vI (x + 1)), (3, vI ((100 * ((a : Nat) : Int)) + ((i : Nat) : Int))), (4, vI ((a : Nat) : Int)), (0, vA 123), (1, vI q)]) (by intro q hq; simp only [List.mem_cons, List.not_mem_nil, or_false] at hq ⊢; rcases hq with rfl | rfl | rfl | rfl | rfl | rfl <;> simp) (ih (i + 1) (x + 1) ((100 * ((a : Nat) : Int)) + ((i : Nat) : Int)) (by omega) (by omega) (by rw [nv_y iv (by omega)]; refine Prod.ext (by first | rfl | (show _ = _; omega)) ?_; show (if x = 0 then 100 * (a : Int) + i else y) = _; first | (rw [if_pos (by omega)] <;> omega) | (rw [if_neg (by omega)] <;> omega)) (by unfold nvI at ii ⊢; omega))
set_option maxHeartbeats 8000000 in
theorem l_nvAR {γ : GT} {d : Nat} {T : Nat → Nat → Int} {n : Nat} {q : Int} {h : Nat → Nat → Int} {τ : List AC} {Post : Option AV → List AC → Prop} (hd : 3 ≤ d) (hT : tOK T) (hRT : RT h T) (hn : T 0 2 = ((n : Nat) : Int)) (kQ : Post (some (vI (if q = 0 then (nvA T n n).1 else (nvA T n n).2))) (mk h τ)) :
    ∀ (f i : Nat) (x : Int) (y : Int), i ≤ n → n < i + f → (nvA T n i = (x, y)) → (nvI (12 * (i : Int)) x y) → Aj γ mX9_never d 0 0 Post 24 [(4, vI ((i : Nat) : Int)), (2, vI x), (3, vI y), (0, vA 123), (1, vI q)] [] (mk h τ) := by
  intro f
  induction f with
  | zero => intro i x y h1_ h2_; omega
  | succ f ih =>
    intro i x y h1_ h2_ iv ii
    have h2_ := hT.2.2.1
    refine a_iload (j := 0) dX9_never_24 rfl ?_
    refine a_aload_n (j := 3) dX9_never_26 rfl rfl (Nat.le_of_ble_eq_true rfl) ?_
    refine b_getp (a := 123) (p := 124) dX9_never_27 fwX9_9 (by decide) rfl (by decide) rfl rfl ?_
    refine a_iconst dX9_never_30 ⟨by decide, by decide⟩ ?_
    refine b_iaload (a := 124) (z := ((n : Nat) : Int)) 5 dX9_never_31 (by decide) rfl rfl (by decide) rfl (hRT.1.1.2.2.1.trans hn) (fun r31_1 => ?_)
    refine a_icmp_ge (tgt := 117) dX9_never_32 (by decide) (fun c32_2 => ?_) (fun c32_2 => ?_)
    · refine a_iload_n (j := 4) dX9_never_117 rfl rfl ?_
      refine a_if_ne (tgt := 125) dX9_never_118 (by decide) (fun c118_3 => ?_) (fun c118_3 => ?_)
      · refine a_iload_n (j := 2) dX9_never_125 rfl rfl ?_
        exact a_iret dX9_never_126 rfl (by obtain rfl : i = n := (by omega); exact post_v kQ (by rw [iv]; first | (rw [if_pos (by omega)]; done) | (rw [if_neg (by omega)]; done) | (exfalso; omega)))
      · refine a_iload_n (j := 1) dX9_never_121 rfl rfl ?_
        refine a_goto (tgt := 126) dX9_never_122 (by decide) ?_
        exact a_iret dX9_never_126 rfl (by obtain rfl : i = n := (by omega); exact post_v kQ (by rw [iv]; first | (rw [if_pos (by omega)]; done) | (rw [if_neg (by omega)]; done) | (exfalso; omega)))
    · refine a_iconst dX9_never_35 ⟨by decide, by decide⟩ ?_
      refine a_istore (lv' := [(5, vI 0), (4, vI ((i : Nat) : Int)), (2, vI x), (3, vI y), (0, vA 123), (1, vI q)]) dX9_never_36 (by decide) rfl ?_
      refine a_lv (lv' := [(5, vI ((0 : Nat) : Int)), (2, vI x), (3, vI y), (4, vI ((i : Nat) : Int)), (0, vA 123), (1, vI q)]) (by intro q hq; simp only [List.mem_cons, List.not_mem_nil, or_false] at hq ⊢; rcases hq with rfl | rfl | rfl | rfl | rfl | rfl <;> simp) (l_nvIR (p := (x, y)) (a := i) hd hT hRT hn (by omega) ?_ (n + 1) 0 x y (by omega) (by omega) rfl (by unfold nvI at ii ⊢; omega))
      intro z7 x7 y7 b7 i7
      refine a_iinc (j := 3) (z' := ((i + 1 : Nat) : Int)) (lv' := [(4, vI ((i + 1 : Nat) : Int)), (5, vI z7), (2, vI x7), (3, vI y7), (0, vA 123), (1, vI q)]) dX9_never_111 rfl (w_okN (by omega) (by omega) (by omega)) (by decide) rfl ?_
      refine a_goto (tgt := 24) dX9_never_114 (by decide) ?_
      refine a_lv (lv' := [(4, vI (((i + 1) : Nat) : Int)), (2, vI x7), (3, vI y7), (0, vA 123), (1, vI q)]) (by intro q hq; simp only [List.mem_cons, List.not_mem_nil, or_false] at hq ⊢; rcases hq with rfl | rfl | rfl | rfl | rfl <;> simp) (ih (i + 1) x7 y7 (by omega) (by omega) (by show nvB T i (nvA T n i) n = _; rw [iv]; exact b7) (by unfold nvI at i7 ⊢; omega))
