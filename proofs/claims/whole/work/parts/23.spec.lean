/-! FRAMES: all cells but those of L are as they were -/
def Fr (L : List Nat) (h h' : Nat → Nat → Int) : Prop := ∀ c, c ∉ L → h' c = h c
theorem Fr_r {L : List Nat} {h : Nat → Nat → Int} : Fr L h h := fun _ _ => rfl
theorem Fr_u {L : List Nat} {h h' : Nat → Nat → Int} {c k : Nat} {v : Int} (hc : c ∈ L) (hF : Fr L h h') : Fr L h (up2 h' c k v) := fun j hj => (up2_row (fun e => hj (by rw [e]; exact hc))).trans (hF j hj)
theorem Fr_R {L : List Nat} {h h' : Nat → Nat → Int} {c : Nat} {f : Nat → Int} (hc : c ∈ L) (hF : Fr L h h') : Fr L h (upR h' c f) := fun j hj => (upR_rn (fun e => hj (by rw [e]; exact hc))).trans (hF j hj)
theorem Fr_t {L : List Nat} {h h' h'' : Nat → Nat → Int} (hF : Fr L h h') (hG : Fr L h' h'') : Fr L h h'' := fun c hc => (hG c hc).trans (hF c hc)
theorem Fr_m {L L' : List Nat} {h h' : Nat → Nat → Int} (hs : ∀ c, c ∈ L → c ∈ L') (hF : Fr L h h') : Fr L' h h' := fun c hc => hF c (fun e => hc (hs c e))
theorem Fr_v {L : List Nat} {h h' : Nat → Nat → Int} {c k : Nat} (hF : Fr L h h') (hc : c ∉ L) : h' c k = h c k := by rw [hF c hc]
/-- sums -/
def sm (f : Nat → Int) : Nat → Int
  | 0 => 0
  | k + 1 => sm f k + f k
theorem sm_ext {f g : Nat → Int} : ∀ {n : Nat}, (∀ k, k < n → f k = g k) → sm f n = sm g n
  | 0, _ => rfl
  | n + 1, h => by
    show sm f n + f n = sm g n + g n
    rw [sm_ext (fun k hk => h k (by omega)), h n (by omega)]
theorem sm_mul {f : Nat → Int} {c : Int} : ∀ {n : Nat}, sm (fun k => f k * c) n = sm f n * c
  | 0 => by show (0 : Int) = 0 * c; omega
  | n + 1 => by
    show sm (fun k => f k * c) n + f n * c = (sm f n + f n) * c
    rw [sm_mul, Int.add_mul]
theorem sm_nn {f : Nat → Int} : ∀ {n : Nat}, (∀ k, k < n → 0 ≤ f k) → 0 ≤ sm f n
  | 0, _ => Int.le_refl 0
  | n + 1, h => by
    have h1 := sm_nn (f := f) (n := n) (fun k hk => h k (by omega))
    have h2 := h n (by omega)
    show 0 ≤ sm f n + f n
    omega
theorem sm_le {f g : Nat → Int} : ∀ {n : Nat}, (∀ k, k < n → f k ≤ g k) → sm f n ≤ sm g n
  | 0, _ => Int.le_refl 0
  | n + 1, h => by
    have h1 := sm_le (f := f) (g := g) (n := n) (fun k hk => h k (by omega))
    have h2 := h n (by omega)
    show sm f n + f n ≤ sm g n + g n
    omega
theorem sm_s (f : Nat → Int) (k : Nat) : sm f (k + 1) = sm f k + f k := rfl
theorem sm_z {f : Nat → Int} {k : Nat} (h : f k = 0) : sm f (k + 1) = sm f k := by rw [sm_s, h, Int.add_zero]
theorem sm_mono {f : Nat → Int} {a : Nat} (h : ∀ k, 0 ≤ f k) : ∀ {b : Nat}, a ≤ b → sm f a ≤ sm f b
  | 0, hb => by rw [show a = 0 by omega]; exact Int.le_refl _
  | b + 1, hb => by
    rcases Nat.lt_or_ge a (b + 1) with h1 | h1
    · have h2 := sm_mono (a := a) h (b := b) (by omega)
      have h3 := h b
      rw [sm_s]; omega
    · rw [show a = b + 1 by omega]; exact Int.le_refl _
/-! WHAT A ROW OF THE REFERENCE SAYS -/
def cnN (N : Nat → Int) (key : Int) : Int := cntG (fun t => N (173 + 2 * t) / 1000) key (Int.toNat (N 6))
def lnN (N : Nat → Int) (t : Nat) : Nat := Int.toNat (N (173 + 2 * t) % 1000)
def cdN (N : Nat → Int) (t : Nat) : Nat → Int := fun k => N (201 + 96 * t + k)
def woN (N : Nat → Int) (t : Nat) (fa : Nat → Int) : Int := wrF fa (cdN N t) (lnN N t)
def fc3 (a b c : Int) : Nat → Int := fun k => if k = 0 then a else if k = 1 then b else c
/-- the texts of a row are as text() leaves them -/
def txOK (N : Nat → Int) : Prop := (0 ≤ N 6 ∧ N 6 ≤ 14) ∧ (∀ t : Nat, t < 14 → 0 ≤ N (173 + 2 * t) ∧ N (173 + 2 * t) ≤ 2999) ∧ ∀ t : Nat, (t : Int) < N 6 → N (173 + 2 * t) % 1000 ≤ 96 ∧ wfC (cdN N t) (lnN N t) ∧ (N (173 + 2 * t) / 1000 = 1 → ∀ k, k < lnN N t → cdN N t k ≤ 10001)
def scOK (N : Nat → Int) : Prop := (0 ≤ N 1 ∧ N 1 ≤ 999) ∧ (0 ≤ N 2 ∧ N 2 ≤ 5) ∧ (0 ≤ N 3 ∧ N 3 ≤ 2999) ∧ (0 ≤ N 4 ∧ N 4 ≤ 6) ∧ (0 ≤ N 5 ∧ N 5 ≤ 12)
def stOK (N : Nat → Int) : Prop := ∀ s : Nat, s < 6 → 0 ≤ N (9 + s) ∧ N (9 + s) ≤ 99
def trR (N : Nat → Int) (t : Nat) : Prop := (0 ≤ N (15 + 11 * t) ∧ N (15 + 11 * t) ≤ 5) ∧ (0 ≤ N (16 + 11 * t) ∧ N (16 + 11 * t) < N 4) ∧ (0 ≤ N (17 + 11 * t) ∧ N (17 + 11 * t) < N 4) ∧ (0 ≤ N (18 + 11 * t) ∧ N (18 + 11 * t) ≤ 1439) ∧ (1 ≤ N (19 + 11 * t) ∧ N (19 + 11 * t) ≤ 600) ∧ (0 ≤ N (20 + 11 * t) ∧ N (20 + 11 * t) ≤ 999) ∧ (-1 ≤ N (21 + 11 * t) ∧ N (21 + 11 * t) < (t : Int)) ∧ 0 ≤ N (22 + 11 * t) ∧ 0 ≤ N (22 + 11 * t + 1) ∧ 0 ≤ N (22 + 11 * t + 2) ∧ 0 ≤ N (22 + 11 * t + 3) ∧ N (22 + 11 * t) + N (22 + 11 * t + 1) + N (22 + 11 * t + 2) + N (22 + 11 * t + 3) = 100
def trOK (N : Nat → Int) : Prop := ∀ t : Nat, (t : Int) < N 5 → trR N t
def NV (N : Nat → Int) : Prop := scOK N ∧ stOK N ∧ trOK N ∧ txOK N
def wkN (N : Nat → Int) (s : Nat) : Int := if cnN N 2 < 0 then N (9 + s) else hw (woN N (Int.toNat (cnN N 2)) (fc3 s (N (9 + s)) (N 1))) 0 99
def wtN (N : Nat → Int) (t : Nat) : Int := if cnN N 0 < 0 then uwF (N (15 + 11 * t)) else hw (woN N (Int.toNat (cnN N 0)) (fc3 (N (15 + 11 * t)) t (N 1))) 0 30
def tdN (N : Nat → Int) (t : Nat) : Int := if cnN N 1 < 0 then 0 else hw (woN N (Int.toNat (cnN N 1)) (fc3 t (N 1) 0)) 0 120
def goN (N : Nat → Int) (t : Nat) : Int := N (18 + 11 * t) + (if N (15 + 11 * t) = 4 then tdN N t else 0)
/-- the delays by step s of the first n trains -/
def dlT (N : Nat → Int) (s : Nat) : Nat → Nat → Int
  | 0 => fun _ => 0
  | n + 1 => up (dlT N s n) n (delF (N (15 + 11 * n)) s (if N (21 + 11 * n) < 0 then 0 else dlT N s n (Int.toNat (N (21 + 11 * n)))))
def dlN (N : Nat → Int) (t s : Nat) : Int := dlT N s (t + 1) t
theorem cnN_rng {N : Nat → Int} (h : txOK N) (key : Int) : -1 ≤ cnN N key ∧ cnN N key < N 6 := by
  have h1 := cntG_rng (fun t => N (173 + 2 * t) / 1000) key (Int.toNat (N 6))
  have h2 := h.1
  unfold cnN
  omega
theorem cntG_key (kx : Nat → Int) (key : Int) : ∀ n : Nat, 0 ≤ cntG kx key n → kx (Int.toNat (cntG kx key n)) = key
  | 0, h => by unfold cntG at h; omega
  | n + 1, h => by
    by_cases h1 : kx n = key
    · rw [cntG_pos h1]; exact h1
    · rw [cntG_neg h1] at h ⊢
      exact cntG_key kx key n h
theorem evL_ext {fa fb cd : Nat → Int} {n : Nat} (hc : ∀ k, k < n → cd k ≤ 10001) (hf : ∀ k, k < 2 → fa k = fb k) : ∀ k, k ≤ n → evL fa cd k = evL fb cd k
  | 0, _ => rfl
  | k + 1, hk => by
    show evS fa (cd k) (evL fa cd k) = evS fb (cd k) (evL fb cd k)
    rw [evL_ext hc hf k (by omega)]
    have := hc k (by omega)
    unfold evS
    by_cases c1 : 0 ≤ cd k
    · rw [if_pos c1, if_pos c1]
      by_cases c2 : cd k < 10000
      · rw [if_pos c2, if_pos c2]
      · rw [if_neg c2, if_neg c2, hf _ (by omega)]
    · rw [if_neg c1, if_neg c1]
theorem wrF_ext {fa fb cd : Nat → Int} {n : Nat} (hc : ∀ k, k < n → cd k ≤ 10001) (hf : ∀ k, k < 2 → fa k = fb k) : wrF fa cd n = wrF fb cd n := by
  unfold wrF; rw [evL_ext hc hf n (Nat.le_refl n)]
theorem hw_rng {v a b : Int} (h : a ≤ b) : a ≤ hw v a b ∧ hw v a b ≤ b := by
  unfold hw; split
  · omega
  · split <;> omega
theorem wkN_rng {N : Nat → Int} (h : stOK N) {s : Nat} (hs : s < 6) : 0 ≤ wkN N s ∧ wkN N s ≤ 99 := by
  unfold wkN; split
  · exact h s hs
  · exact hw_rng (by omega)
theorem wtN_rng {N : Nat → Int} {t : Nat} : 0 ≤ wtN N t ∧ wtN N t ≤ 30 := by
  unfold wtN; split
  · unfold uwF; split
    · omega
    · split <;> omega
  · exact hw_rng (by omega)
theorem tdN_rng {N : Nat → Int} {t : Nat} : 0 ≤ tdN N t ∧ tdN N t ≤ 120 := by
  unfold tdN; split
  · omega
  · exact hw_rng (by omega)
theorem goN_rng {N : Nat → Int} {t : Nat} (h : trR N t) : 0 ≤ goN N t ∧ goN N t ≤ 1559 := by
  have h1 := h.2.2.2.1
  have h2 := tdN_rng (N := N) (t := t)
  unfold goN; split <;> omega
theorem delF_rng {k s g : Int} (hs : 0 ≤ s ∧ s ≤ 3) (hg : 0 ≤ g ∧ g ≤ 42) : 0 ≤ delF k s g ∧ delF k s g ≤ 42 := by
  unfold delF; split
  · omega
  · split
    · omega
    · split <;> omega
theorem dlT_rng {N : Nat → Int} {s : Nat} (hs : s < 4) : ∀ n t, 0 ≤ dlT N s n t ∧ dlT N s n t ≤ 42
  | 0, t => by show 0 ≤ (0 : Int) ∧ (0 : Int) ≤ 42; omega
  | n + 1, t => by
    show 0 ≤ up (dlT N s n) n _ t ∧ up (dlT N s n) n _ t ≤ 42
    unfold up; split
    · apply delF_rng (by omega)
      split
      · omega
      · exact dlT_rng hs n _
    · exact dlT_rng hs n t
theorem dlT_old {N : Nat → Int} {s t : Nat} : ∀ n, t < n → dlT N s n t = dlN N t s
  | 0, h => by omega
  | n + 1, h => by
    by_cases c : t = n
    · subst c; rfl
    · show up (dlT N s n) n _ t = _
      unfold up; rw [if_neg c]
      exact dlT_old n (by omega)
theorem dlN_eq {N : Nat → Int} {t s : Nat} (h : N (21 + 11 * t) < (t : Int)) : dlN N t s = delF (N (15 + 11 * t)) s (if N (21 + 11 * t) < 0 then 0 else dlN N (Int.toNat (N (21 + 11 * t))) s) := by
  show up (dlT N s t) t _ t = _
  unfold up; rw [if_pos rfl]
  by_cases c : N (21 + 11 * t) < 0
  · rw [if_pos c, if_pos c]
  · rw [if_neg c, if_neg c, dlT_old t (by omega)]
theorem dlN_rng {N : Nat → Int} {t s : Nat} (hs : s < 4) : 0 ≤ dlN N t s ∧ dlN N t s ≤ 42 := dlT_rng hs _ _
/-! THE TIMETABLE of a row: rows of numbers. 0: goal, noon, trains, stops; 1 walks, 2 from, 3 to, 4 takes, 5 fares, 6 goes, 7 waits, 8 chances, 9 later -/
def tt (N : Nat → Int) : Nat → Nat → Int
  | 0 => fun k => if k = 0 then N 2 else if k = 1 then N 3 else if k = 2 then N 5 else N 4
  | 1 => fun s => if (s : Int) < N 4 then wkN N s else 0
  | 2 => fun t => if (t : Int) < N 5 then N (16 + 11 * t) else 0
  | 3 => fun t => if (t : Int) < N 5 then N (17 + 11 * t) else 0
  | 4 => fun t => if (t : Int) < N 5 then N (19 + 11 * t) else 1
  | 5 => fun t => if (t : Int) < N 5 then farF (N (15 + 11 * t)) (N (20 + 11 * t)) else 0
  | 6 => fun t => if (t : Int) < N 5 then goN N t else 0
  | 7 => fun t => if (t : Int) < N 5 then wtN N t else 0
  | 8 => fun q => if ((q / 4 : Nat) : Int) < N 5 then N (22 + 11 * (q / 4) + q % 4) else 0
  | 9 => fun q => if ((q / 4 : Nat) : Int) < N 5 then goN N (q / 4) + dlN N (q / 4) (q % 4) else 0
  | _ => fun _ => 0
def tOK (T : Nat → Nat → Int) : Prop := (0 ≤ T 0 0 ∧ T 0 0 ≤ 5) ∧ (0 ≤ T 0 1 ∧ T 0 1 ≤ 2999) ∧ (0 ≤ T 0 2 ∧ T 0 2 ≤ 12) ∧ (0 ≤ T 0 3 ∧ T 0 3 ≤ 6) ∧ (∀ s, 0 ≤ T 1 s ∧ T 1 s ≤ 99) ∧ ∀ t : Nat, (0 ≤ T 2 t ∧ T 2 t ≤ 5) ∧ (0 ≤ T 3 t ∧ T 3 t ≤ 5) ∧ (1 ≤ T 4 t ∧ T 4 t ≤ 600) ∧ (0 ≤ T 5 t ∧ T 5 t ≤ 2018) ∧ (0 ≤ T 6 t ∧ T 6 t ≤ 1559) ∧ (0 ≤ T 7 t ∧ T 7 t ≤ 30) ∧ (∀ s, s < 4 → (0 ≤ T 8 (4 * t + s) ∧ T 8 (4 * t + s) ≤ 100) ∧ T 6 t ≤ T 9 (4 * t + s) ∧ T 9 (4 * t + s) ≤ T 6 t + 42) ∧ ((t : Int) < T 0 2 → T 2 t < T 0 3 ∧ T 3 t < T 0 3 ∧ T 8 (4 * t) + T 8 (4 * t + 1) + T 8 (4 * t + 2) + T 8 (4 * t + 3) = 100)
theorem farF_rng {k p : Int} (h : 0 ≤ p ∧ p ≤ 999) : 0 ≤ farF k p ∧ farF k p ≤ 2018 := by
  unfold farF; split
  · omega
  · split
    · omega
    · split <;> omega
theorem tt8 {N : Nat → Int} {t s : Nat} (hs : s < 4) (ht : (t : Int) < N 5) : tt N 8 (4 * t + s) = N (22 + 11 * t + s) := by
  show (if (((4 * t + s) / 4 : Nat) : Int) < N 5 then N (22 + 11 * ((4 * t + s) / 4) + (4 * t + s) % 4) else 0) = _
  rw [show (4 * t + s) / 4 = t by omega, show (4 * t + s) % 4 = s by omega, if_pos ht]
theorem tt9 {N : Nat → Int} {t s : Nat} (hs : s < 4) (ht : (t : Int) < N 5) : tt N 9 (4 * t + s) = goN N t + dlN N t s := by
  show (if (((4 * t + s) / 4 : Nat) : Int) < N 5 then goN N ((4 * t + s) / 4) + dlN N ((4 * t + s) / 4) ((4 * t + s) % 4) else 0) = _
  rw [show (4 * t + s) / 4 = t by omega, show (4 * t + s) % 4 = s by omega, if_pos ht]
theorem tt8n {N : Nat → Int} {t s : Nat} (hs : s < 4) (ht : ¬ (t : Int) < N 5) : tt N 8 (4 * t + s) = 0 := by
  show (if (((4 * t + s) / 4 : Nat) : Int) < N 5 then N (22 + 11 * ((4 * t + s) / 4) + (4 * t + s) % 4) else 0) = _
  rw [show (4 * t + s) / 4 = t by omega, if_neg ht]
theorem tt9n {N : Nat → Int} {t s : Nat} (hs : s < 4) (ht : ¬ (t : Int) < N 5) : tt N 9 (4 * t + s) = 0 := by
  show (if (((4 * t + s) / 4 : Nat) : Int) < N 5 then goN N ((4 * t + s) / 4) + dlN N ((4 * t + s) / 4) ((4 * t + s) % 4) else 0) = _
  rw [show (4 * t + s) / 4 = t by omega, if_neg ht]
theorem tt_OK {N : Nat → Int} (h : NV N) : tOK (tt N) := by
  obtain ⟨⟨a1, a2, a3, a4, a5⟩, hst, htr, htx⟩ := h
  refine ⟨a2, a3, a5, a4, ?_, ?_⟩
  · intro s
    show 0 ≤ (if (s : Int) < N 4 then wkN N s else 0) ∧ (if (s : Int) < N 4 then wkN N s else 0) ≤ 99
    split
    · exact wkN_rng hst (by omega)
    · omega
  · intro t
    by_cases ht : (t : Int) < N 5
    · have hr := htr t ht
      have hr' := hr
      obtain ⟨b1, b2, b3, b4, b5, b6, b7, b8, b9, b10, b11, b12⟩ := hr'
      have hf := farF_rng (k := N (15 + 11 * t)) b6
      have hg := goN_rng hr
      have e2 : tt N 2 t = N (16 + 11 * t) := if_pos ht
      have e3 : tt N 3 t = N (17 + 11 * t) := if_pos ht
      have e4 : tt N 4 t = N (19 + 11 * t) := if_pos ht
      have e5 : tt N 5 t = farF (N (15 + 11 * t)) (N (20 + 11 * t)) := if_pos ht
      have e6 : tt N 6 t = goN N t := if_pos ht
      have e7 : tt N 7 t = wtN N t := if_pos ht
      have e03 : tt N 0 3 = N 4 := rfl
      have hw7 := wtN_rng (N := N) (t := t)
      rw [e2, e3, e4, e5, e6, e7, e03]
      refine ⟨by omega, by omega, b5, hf, hg, hw7, ?_, ?_⟩
      · intro s hs
        rw [tt8 hs ht, tt9 hs ht]
        have hd := dlN_rng (N := N) (t := t) hs
        refine ⟨?_, by omega, by omega⟩
        rcases (show s = 0 ∨ s = 1 ∨ s = 2 ∨ s = 3 by omega) with rfl | rfl | rfl | rfl
        · rw [Nat.add_zero]; omega
        · omega
        · omega
        · omega
      · intro _
        have q0 := tt8 (N := N) (t := t) (s := 0) (by omega) ht
        have q1 := tt8 (N := N) (t := t) (s := 1) (by omega) ht
        have q2 := tt8 (N := N) (t := t) (s := 2) (by omega) ht
        have q3 := tt8 (N := N) (t := t) (s := 3) (by omega) ht
        rw [Nat.add_zero, Nat.add_zero] at q0
        rw [q0, q1, q2, q3]
        omega
    · have e2 : tt N 2 t = 0 := if_neg ht
      have e3 : tt N 3 t = 0 := if_neg ht
      have e4 : tt N 4 t = 1 := if_neg ht
      have e5 : tt N 5 t = 0 := if_neg ht
      have e6 : tt N 6 t = 0 := if_neg ht
      have e7 : tt N 7 t = 0 := if_neg ht
      rw [e2, e3, e4, e5, e6, e7]
      refine ⟨by omega, by omega, by omega, by omega, by omega, by omega, ?_, ?_⟩
      · intro s hs
        rw [tt8n hs ht, tt9n hs ht]
        omega
      · intro h
        exact absurd h ht
/-! what add, clear, guest, part, seed and rides leave as it is -/
def VE (N N' : Nat → Int) : Prop := ∀ k, k < 1545 → k ≠ 0 → k ≠ 7 → k ≠ 8 → (k < 147 ∨ 172 < k) → N k = N' k
theorem VE_tx {N N' : Nat → Int} (h : NV N) (e : VE N N') : (∀ key, cnN N' key = cnN N key) ∧ ∀ t : Nat, (t : Int) < N 6 → ∀ fa, woN N' t fa = woN N t fa := by
  obtain ⟨hsc, hst, htr, htx⟩ := h
  have h6 := htx.1
  refine ⟨?_, ?_⟩
  · intro key
    unfold cnN
    rw [← e 6 (by omega) (by omega) (by omega) (by omega) (by omega)]
    refine cntG_ext (fun t ht => ?_)
    rw [e (173 + 2 * t) (by omega) (by omega) (by omega) (by omega) (by omega)]
  · intro t ht fa
    have hl := (htx.2.2 t ht).1
    have el : lnN N' t = lnN N t := by
      unfold lnN
      rw [e (173 + 2 * t) (by omega) (by omega) (by omega) (by omega) (by omega)]
    unfold woN wrF
    rw [el]
    have hn : lnN N t ≤ 96 := by unfold lnN; omega
    have key : ∀ k, k ≤ lnN N t → evL fa (cdN N' t) k = evL fa (cdN N t) k := by
      intro k
      induction k with
      | zero => intro _; rfl
      | succ k ih =>
        intro hk
        show evS fa (cdN N' t k) (evL fa (cdN N' t) k) = evS fa (cdN N t k) (evL fa (cdN N t) k)
        rw [ih (by omega)]
        have : cdN N' t k = cdN N t k := by
          unfold cdN
          exact (e (201 + 96 * t + k) (by omega) (by omega) (by omega) (by omega) (by omega)).symm
        rw [this]
    rw [key _ (Nat.le_refl _)]
theorem VE_tt {N N' : Nat → Int} (h : NV N) (e : VE N N') : tt N' = tt N := by
  obtain ⟨hcn, hwo⟩ := VE_tx h e
  have hall := h
  obtain ⟨hsc, hst, htr, htx⟩ := h
  have h6 := htx.1
  obtain ⟨a1, a2, a3, a4, a5⟩ := hsc
  have s1 : N' 1 = N 1 := (e 1 (by omega) (by omega) (by omega) (by omega) (by omega)).symm
  have s2 : N' 2 = N 2 := (e 2 (by omega) (by omega) (by omega) (by omega) (by omega)).symm
  have s3 : N' 3 = N 3 := (e 3 (by omega) (by omega) (by omega) (by omega) (by omega)).symm
  have s4 : N' 4 = N 4 := (e 4 (by omega) (by omega) (by omega) (by omega) (by omega)).symm
  have s5 : N' 5 = N 5 := (e 5 (by omega) (by omega) (by omega) (by omega) (by omega)).symm
  have tr : ∀ t : Nat, (t : Int) < N 5 → ∀ k, k < 11 → N' (15 + 11 * t + k) = N (15 + 11 * t + k) := fun t ht k hk => (e _ (by omega) (by omega) (by omega) (by omega) (by omega)).symm
  have tk : ∀ t : Nat, (t : Int) < N 5 → N' (15 + 11 * t) = N (15 + 11 * t) := fun t ht => tr t ht 0 (by omega)
  have go : ∀ t : Nat, (t : Int) < N 5 → goN N' t = goN N t := by
    intro t ht
    have l : N' (18 + 11 * t) = N (18 + 11 * t) := (e _ (by omega) (by omega) (by omega) (by omega) (by omega)).symm
    have td : tdN N' t = tdN N t := by
      have hr := cnN_rng htx 1
      unfold tdN
      rw [hcn 1, s1]
      by_cases c : cnN N 1 < 0
      · rw [if_pos c, if_pos c]
      · rw [if_neg c, if_neg c, hwo _ (by omega)]
    unfold goN
    rw [l, tk t ht, td]
  have wt : ∀ t : Nat, (t : Int) < N 5 → wtN N' t = wtN N t := by
    intro t ht
    have hr := cnN_rng htx 0
    unfold wtN
    rw [hcn 0, s1, tk t ht]
    by_cases c : cnN N 0 < 0
    · rw [if_pos c, if_pos c]
    · rw [if_neg c, if_neg c, hwo _ (by omega)]
  have dl : ∀ s n : Nat, (n : Int) ≤ N 5 → dlT N' s n = dlT N s n := by
    intro s n
    induction n with
    | zero => intro _; rfl
    | succ n ih =>
      intro hn
      show up (dlT N' s n) n _ = up (dlT N s n) n _
      rw [ih (by omega), tk n (by omega), show N' (21 + 11 * n) = N (21 + 11 * n) from (e _ (by omega) (by omega) (by omega) (by omega) (by omega)).symm]
  funext j k
  match j with
  | 0 =>
    show (if k = 0 then N' 2 else if k = 1 then N' 3 else if k = 2 then N' 5 else N' 4) = (if k = 0 then N 2 else if k = 1 then N 3 else if k = 2 then N 5 else N 4)
    rw [s2, s3, s4, s5]
  | 1 =>
    show (if (k : Int) < N' 4 then wkN N' k else 0) = (if (k : Int) < N 4 then wkN N k else 0)
    rw [s4]
    by_cases c : (k : Int) < N 4
    · rw [if_pos c, if_pos c]
      have hr := cnN_rng htx 2
      unfold wkN
      rw [hcn 2, s1, show N' (9 + k) = N (9 + k) from (e _ (by omega) (by omega) (by omega) (by omega) (by omega)).symm]
      by_cases c2 : cnN N 2 < 0
      · rw [if_pos c2, if_pos c2]
      · rw [if_neg c2, if_neg c2, hwo _ (by omega)]
    · rw [if_neg c, if_neg c]
  | 2 =>
    show (if (k : Int) < N' 5 then N' (16 + 11 * k) else 0) = (if (k : Int) < N 5 then N (16 + 11 * k) else 0)
    rw [s5]
    by_cases c : (k : Int) < N 5
    · rw [if_pos c, if_pos c]; exact (e _ (by omega) (by omega) (by omega) (by omega) (by omega)).symm
    · rw [if_neg c, if_neg c]
  | 3 =>
    show (if (k : Int) < N' 5 then N' (17 + 11 * k) else 0) = (if (k : Int) < N 5 then N (17 + 11 * k) else 0)
    rw [s5]
    by_cases c : (k : Int) < N 5
    · rw [if_pos c, if_pos c]; exact (e _ (by omega) (by omega) (by omega) (by omega) (by omega)).symm
    · rw [if_neg c, if_neg c]
  | 4 =>
    show (if (k : Int) < N' 5 then N' (19 + 11 * k) else 1) = (if (k : Int) < N 5 then N (19 + 11 * k) else 1)
    rw [s5]
    by_cases c : (k : Int) < N 5
    · rw [if_pos c, if_pos c]; exact (e _ (by omega) (by omega) (by omega) (by omega) (by omega)).symm
    · rw [if_neg c, if_neg c]
  | 5 =>
    show (if (k : Int) < N' 5 then farF (N' (15 + 11 * k)) (N' (20 + 11 * k)) else 0) = (if (k : Int) < N 5 then farF (N (15 + 11 * k)) (N (20 + 11 * k)) else 0)
    rw [s5]
    by_cases c : (k : Int) < N 5
    · rw [if_pos c, if_pos c, tk k c, show N' (20 + 11 * k) = N (20 + 11 * k) from (e _ (by omega) (by omega) (by omega) (by omega) (by omega)).symm]
    · rw [if_neg c, if_neg c]
  | 6 =>
    show (if (k : Int) < N' 5 then goN N' k else 0) = (if (k : Int) < N 5 then goN N k else 0)
    rw [s5]
    by_cases c : (k : Int) < N 5
    · rw [if_pos c, if_pos c, go k c]
    · rw [if_neg c, if_neg c]
  | 7 =>
    show (if (k : Int) < N' 5 then wtN N' k else 0) = (if (k : Int) < N 5 then wtN N k else 0)
    rw [s5]
    by_cases c : (k : Int) < N 5
    · rw [if_pos c, if_pos c, wt k c]
    · rw [if_neg c, if_neg c]
  | 8 =>
    show (if ((k / 4 : Nat) : Int) < N' 5 then N' (22 + 11 * (k / 4) + k % 4) else 0) = (if ((k / 4 : Nat) : Int) < N 5 then N (22 + 11 * (k / 4) + k % 4) else 0)
    rw [s5]
    by_cases c : ((k / 4 : Nat) : Int) < N 5
    · rw [if_pos c, if_pos c]; exact (e _ (by omega) (by omega) (by omega) (by omega) (by omega)).symm
    · rw [if_neg c, if_neg c]
  | 9 =>
    show (if ((k / 4 : Nat) : Int) < N' 5 then goN N' (k / 4) + dlN N' (k / 4) (k % 4) else 0) = (if ((k / 4 : Nat) : Int) < N 5 then goN N (k / 4) + dlN N (k / 4) (k % 4) else 0)
    rw [s5]
    by_cases c : ((k / 4 : Nat) : Int) < N 5
    · rw [if_pos c, if_pos c, go _ c]
      unfold dlN
      rw [dl _ _ (by omega)]
    · rw [if_neg c, if_neg c]
  | _ + 10 => rfl
