/-- how many leaves stand among codes -/
def lvs (a : List Int) : Nat := a.countP (fun x => decide (0 ≤ x))
theorem lvs_p {a : List Int} {x : Int} (h : 0 ≤ x) : lvs (a ++ [x]) = lvs a + 1 := by
  unfold lvs
  rw [List.countP_append, List.countP_cons]
  simp [h]
theorem lvs_n {a : List Int} {x : Int} (h : x < 0) : lvs (a ++ [x]) = lvs a := by
  unfold lvs
  rw [List.countP_append, List.countP_cons]
  have e : decide (0 ≤ x) = false := decide_eq_false (by omega)
  simp [e]
/-- the class's reader: codes a, token t -/
def CSt (B : Nat → Int) (n K : Nat) (h : Nat → Nat → Int) (a : List Int) (t : Tk) : Prop := h 84 1 = ((n : Nat) : Int) ∧ (∀ k, k < n → and32 (h 85 k) 255 = B k) ∧ h 84 2 = ((t.2.1 : Nat) : Int) ∧ h 84 3 = ((t.2.2 : Nat) : Int) ∧ h 84 4 = t.1 ∧ h 84 5 = ((K : Nat) : Int) ∧ h 84 6 = ((lvs a : Nat) : Int) ∧ h 84 7 = ((a.length : Nat) : Int) ∧ (∀ k, k < a.length → okX (h 86 k) ∧ cmX (h 86 k) = a.getD k 0) ∧ tkV B n t
/-- where it failed -/
def CFt (h : Nat → Nat → Int) (t : Tk) : Prop := h 84 2 = ((t.2.1 : Nat) : Int) ∧ 0 ≤ h 84 7 ∧ h 84 7 ≤ 96
theorem CSt.lt {B : Nat → Int} {n K : Nat} {a : List Int} {t : Tk} {h : Nat → Nat → Int} (cs : CSt B n K h a t) (hz : ¬ t.1 = 0) : t.2.1 < t.2.2 ∧ t.2.2 ≤ n := ⟨cs.2.2.2.2.2.2.2.2.2.2.2.2.1 hz, cs.2.2.2.2.2.2.2.2.2.2.1⟩
theorem CSt.V {B : Nat → Int} {n K : Nat} {a : List Int} {t : Tk} {h : Nat → Nat → Int} (cs : CSt B n K h a t) : tkV B n t := cs.2.2.2.2.2.2.2.2.2
theorem CSt.F {B : Nat → Int} {n K : Nat} {a : List Int} {t : Tk} {h : Nat → Nat → Int} (cs : CSt B n K h a t) (ha : a.length ≤ 96) : CFt h t := ⟨cs.2.2.1, by rw [cs.2.2.2.2.2.2.2.1]; omega, by rw [cs.2.2.2.2.2.2.2.1]; omega⟩
theorem c_goC {γ : GT} {d : Nat} {B : Nat → Int} {n K : Nat} {a : List Int} {t : Tk} {h : Nat → Nat → Int} {τ : List AC} {Post : Option AV → List AC → Prop} (hd : 2 ≤ d) (hm : n ≤ 96) (cs : CSt B n K h a t) (kQ : ∀ h', Fr [84, 86] h h' → CSt B n K h' a (nxt B n t) → Post none (mk h' τ)) : Cj γ mX3_goOn d 0 0 [vA 84] (mk h τ) Post := by
  obtain ⟨c1, c2, c3, c4, c5, c6, c7, c8, c9, c10⟩ := cs
  refine c_X3_goOn hd c1 hm c2 c4 c5 c10.2.1 (fun h' hF hk e2 e3 e4 => kQ h' (Fr_m (by decide) hF) ⟨(hk 1 (by decide)).trans c1, ?_, e2, e3, e4, (hk 5 (by decide)).trans c6, (hk 6 (by decide)).trans c7, (hk 7 (by decide)).trans c8, ?_, (nxt_V c10.2.1).1⟩)
  · rw [hF 85 (by decide)]; exact c2
  · rw [hF 86 (by decide)]; exact c9
theorem CSt_p {B : Nat → Int} {n K : Nat} {a : List Int} {t : Tk} {h : Nat → Nat → Int} {y z : Int} (cs : CSt B n K h a t) (hy : okX y) (hz : cmX y = z) {h' : Nat → Nat → Int} (e5 : h' 85 = h 85) (e4 : ∀ k, k < 6 → h' 84 k = h 84 k) (e6 : h' 84 6 = ((lvs (a ++ [z]) : Nat) : Int)) (e7 : h' 84 7 = ((a.length : Nat) : Int) + 1) (e8 : ∀ k, k ≠ a.length → h' 86 k = h 86 k) (e9 : h' 86 a.length = y) : CSt B n K h' (a ++ [z]) t := by
  obtain ⟨c1, c2, c3, c4, c5, c6, c7, c8, c9, c10⟩ := cs
  refine ⟨(e4 1 (by decide)).trans c1, by rw [e5]; exact c2, (e4 2 (by decide)).trans c3, (e4 3 (by decide)).trans c4, (e4 4 (by decide)).trans c5, (e4 5 (by decide)).trans c6, e6, e7.trans (by rw [List.length_append]; rfl), ?_, c10⟩
  intro k hk
  rw [List.length_append, List.length_singleton] at hk
  by_cases c : k = a.length
  · subst c
    rw [e9]
    refine ⟨hy, hz.trans ?_⟩
    simp [List.getD]
  · rw [e8 k c]
    have q := c9 k (by omega)
    refine ⟨q.1, q.2.trans ?_⟩
    simp only [List.getD]
    rw [List.getElem?_append_left (by omega)]
theorem c_putS {γ : GT} {d : Nat} {B : Nat → Int} {n K : Nat} {a : List Int} {t : Tk} {y z : Int} {h : Nat → Nat → Int} {τ : List AC} {Post : Option AV → List AC → Prop} (cs : CSt B n K h a t) (hl : a.length < 96) (hy : okX y) (hz : cmX y = z) (hn : z < 0) (kQ : ∀ h', Fr [84, 86] h h' → CSt B n K h' (a ++ [z]) t → Post none (mk h' τ)) : Cj γ mX3_put d 0 0 [vA 84, vI y] (mk h τ) Post := by
  refine c_X3_put (Nat.zero_le _) cs.2.2.2.2.2.2.2.1 ⟨by omega, by omega⟩ (fun q => absurd q (by omega)) (fun _ => kQ _ (Fr_u (by decide) (Fr_u (by decide) Fr_r)) (CSt_p cs hy hz ?_ ?_ ?_ ?_ ?_ ?_))
  · exact (up2_row (by decide)).trans (up2_row (by decide))
  · exact fun k hk => (up2_ne (by omega)).trans (up2_ne (by omega))
  · rw [lvs_n hn]; exact ((up2_ne (by omega)).trans (up2_ne (by omega))).trans cs.2.2.2.2.2.2.1
  · exact up2_at
  · exact fun k hk => (up2_ne (by omega)).trans (up2_ne (by omega))
  · exact (up2_ne (by omega)).trans ((congrArg _ (Int.toNat_natCast _).symm).trans up2_at)
theorem c_putL {γ : GT} {d : Nat} {B : Nat → Int} {n K : Nat} {a : List Int} {t : Tk} {y : Int} {h : Nat → Nat → Int} {τ : List AC} {Post : Option AV → List AC → Prop} (cs : CSt B n K h a t) (hl : a.length < 96) (hy : 0 ≤ y ∧ y ≤ 10002) (kQ : ∀ h', Fr [84, 86] h h' → CSt B n K h' (a ++ [y]) t → Post none (mk h' τ)) : Cj γ mX3_put d 0 0 [vA 84, vI y] (mk (up2 h 84 6 (((lvs a : Nat) : Int) + 1)) τ) Post := by
  have hz : cmX y = y := if_pos (by omega)
  refine c_X3_put (Nat.zero_le _) ((up2_ne (by omega)).trans cs.2.2.2.2.2.2.2.1) ⟨by omega, by omega⟩ (fun q => absurd q (by omega)) (fun _ => kQ _ (Fr_u (by decide) (Fr_u (by decide) (Fr_u (by decide) Fr_r))) (CSt_p cs (Or.inl hy) hz ?_ ?_ ?_ ?_ ?_ ?_))
  · exact (up2_row (by decide)).trans ((up2_row (by decide)).trans (up2_row (by decide)))
  · exact fun k hk => (up2_ne (by omega)).trans ((up2_ne (by omega)).trans (up2_ne (by omega)))
  · rw [lvs_p hy.1]; exact (up2_ne (by omega)).trans ((up2_ne (by omega)).trans up2_at)
  · exact up2_at
  · exact fun k hk => (up2_ne (by omega)).trans ((up2_ne (by omega)).trans (up2_ne (by omega)))
  · exact (up2_ne (by omega)).trans ((congrArg _ (Int.toNat_natCast _).symm).trans up2_at)
theorem c_putF {γ : GT} {d : Nat} {t : Tk} {y : Int} {h : Nat → Nat → Int} {τ : List AC} {Post : Option AV → List AC → Prop} (cf : CFt h t) (kQ : ∀ h', Fr [84, 86] h h' → CFt h' t → Post none (mk h' τ)) : Cj γ mX3_put d 0 0 [vA 84, vI y] (mk h τ) Post := by
  refine c_X3_put (Nat.zero_le _) rfl cf.2 (fun _ => kQ h Fr_r cf) (fun q => kQ _ (Fr_u (by decide) (Fr_u (by decide) Fr_r)) ⟨?_, ?_, ?_⟩)
  · exact ((up2_ne (by omega)).trans (up2_ne (by omega))).trans cf.1
  · rw [up2_at]; have := cf.2; omega
  · rw [up2_at]; omega
theorem c_leafT {γ : GT} {d : Nat} {B : Nat → Int} {n K : Nat} {a : List Int} {t : Tk} {y : Int} {h : Nat → Nat → Int} {τ : List AC} {Post : Option AV → List AC → Prop} (hd : 3 ≤ d) (hm : n ≤ 96) (hBr : ∀ k, 0 ≤ B k ∧ B k ≤ 255) (hK3 : K < 3) (cs : CSt B n K h a t) (hl : a.length < 96) (hy : 0 ≤ y ∧ y ≤ 10002) (kQ : ∀ h', Fr [84, 86] h h' → CSt B n K h' (a ++ [y]) (nxt B n t) → Post (some (vI 1)) (mk h' τ)) : Cj γ mX3_readLeaf d 0 0 [vA 84, vI y] (mk h τ) Post := by
  have hlv : lvs a ≤ a.length := List.countP_le_length
  refine c_of (by decide) (Nat.le_of_ble_eq_true rfl) ?_
  show Aj γ mX3_readLeaf d 0 0 Post 0 [(0, vA 84), (1, vI y)] [] (mk h τ)
  refine a_iload_n (j := 1) dX3_readLeaf_0 rfl rfl ?_
  refine a_ldc (z := (-1000000005)) dX3_readLeaf_1 kwX3_49 ⟨by decide, by decide, by decide⟩ ?_
  refine a_icmp_ne (tgt := 8) dX3_readLeaf_3 (by decide) (fun c3_1 => ?_) (fun c3_1 => ?_)
  · refine a_aload_n (j := 0) dX3_readLeaf_8 rfl rfl (Nat.le_of_ble_eq_true rfl) ?_
    refine a_dup dX3_readLeaf_9 (fun h => nomatch h) ?_
    refine b_get (a := 84) (z := ((lvs a : Nat) : Int)) (t := 0) dX3_readLeaf_10 fwX3_36 (by decide) rfl (by decide) rfl rfl cs.2.2.2.2.2.2.1 ?_
    refine a_iconst dX3_readLeaf_13 ⟨by decide, by decide⟩ ?_
    refine a_iadd (z := (((lvs a : Nat) : Int) + 1)) dX3_readLeaf_14 (w_ok (by omega) (by omega)) ?_
    refine b_put (a := 84) (v := vI (((lvs a : Nat) : Int) + 1)) dX3_readLeaf_15 pwX3_36 (fun h => nomatch h) (by decide) rfl (by decide) rfl rfl (fit_int _) ?_
    show Aj γ mX3_readLeaf d 0 0 Post 18 [(0, vA 84), (1, vI y)] [] (mk (up2 h 84 6 (((lvs a : Nat) : Int) + 1)) τ)
    refine a_aload_n (j := 0) dX3_readLeaf_18 rfl rfl (Nat.le_of_ble_eq_true rfl) ?_
    refine a_iload_n (j := 1) dX3_readLeaf_19 rfl rfl ?_
    refine b_callV (d' := d - 1) (mc' := 0) (ms' := 0) (mc1 := 0) (ms1 := 0) (st := []) (b := 84) [vI y] dX3_readLeaf_20 mwX3_put lkX3_110 (by decide) rfl rc_X3 rfl (Nat.le_of_ble_eq_true rfl) (by omega) rfl rfl (c_putL (B := B) (n := n) (K := K) (a := a) (t := t) cs (by omega) (by omega) (fun hp2 fp2 cp2 => ?_))
    show Aj γ mX3_readLeaf d 0 0 Post 23 [(0, vA 84), (1, vI y)] [] (mk hp2 τ)
    refine a_aload_n (j := 0) dX3_readLeaf_23 rfl rfl (Nat.le_of_ble_eq_true rfl) ?_
    refine b_callV (d' := d - 1) (mc' := 0) (ms' := 0) (mc1 := 0) (ms1 := 0) (st := []) (b := 84) [] dX3_readLeaf_24 mwX3_goOn lkX3_39 (by decide) rfl rc_X3 rfl (Nat.le_of_ble_eq_true rfl) (by omega) rfl rfl (c_goC (B := B) (n := n) (K := K) (a := (a ++ [y])) (t := t) (by omega) hm cp2 (fun hg3 fg3 cg3 => ?_))
    have vg3 := nxt_V (B := B) (t := t) cp2.V.2.1
    show Aj γ mX3_readLeaf d 0 0 Post 27 [(0, vA 84), (1, vI y)] [] (mk hg3 τ)
    refine a_iconst dX3_readLeaf_27 ⟨by decide, by decide⟩ ?_
    exact a_zret dX3_readLeaf_28 rfl (by first | exact Or.inl rfl | exact Or.inr rfl | omega) (kQ _ (Fr_t fp2 fg3) cg3)
  · refine a_iconst dX3_readLeaf_6 ⟨by decide, by decide⟩ ?_
    exact a_zret dX3_readLeaf_7 rfl (by first | exact Or.inl rfl | exact Or.inr rfl | omega) (by exfalso; omega)
theorem c_leafF {γ : GT} {d : Nat} {h : Nat → Nat → Int} {τ : List AC} {Post : Option AV → List AC → Prop} (kQ : Post (some (vI 0)) (mk h τ)) : Cj γ mX3_readLeaf d 0 0 [vA 84, vI (-1000000005)] (mk h τ) Post := by
  refine c_of (by decide) (Nat.le_of_ble_eq_true rfl) ?_
  show Aj γ mX3_readLeaf d 0 0 Post 0 [(0, vA 84), (1, vI (-1000000005))] [] (mk h τ)
  refine a_iload_n (j := 1) dX3_readLeaf_0 rfl rfl ?_
  refine a_ldc (z := (-1000000005)) dX3_readLeaf_1 kwX3_49 ⟨by decide, by decide, by decide⟩ ?_
  refine a_icmp_ne (tgt := 8) dX3_readLeaf_3 (by decide) (fun c => absurd c (by decide)) (fun _ => ?_)
  refine a_iconst dX3_readLeaf_6 ⟨by decide, by decide⟩ ?_
  exact a_zret dX3_readLeaf_7 rfl (by first | exact Or.inl rfl | exact Or.inr rfl | omega) kQ
theorem lf_nT {B : Nat → Int} {K : Nat} {t : Tk} (h : t.1 = 2) (h4 : t.2.2 - t.2.1 ≤ 4) : lfc B ((K : Nat) : Int) t = numF B t.2.1 (t.2.2 - t.2.1) := by
  unfold lfc; rw [if_pos h, if_pos h4]
theorem lf_nF {B : Nat → Int} {K : Nat} {t : Tk} (h : t.1 = 2) (h4 : ¬ t.2.2 - t.2.1 ≤ 4) : lfc B ((K : Nat) : Int) t = -1 := by
  unfold lfc; rw [if_pos h, if_neg h4]
theorem lf_aT {B : Nat → Int} {K : Nat} {t : Tk} (hK : K < 3) (h : ¬ t.1 = 2) (h4 : t.2.2 = t.2.1 + 1 ∧ 0 ≤ ixS (3 + K) (B t.2.1)) : lfc B ((K : Nat) : Int) t = 10000 + ixS (3 + K) (B t.2.1) := by
  rw [nm_ix hK] at *
  unfold lfc; rw [if_neg h, if_pos ⟨by omega, h4.2⟩]
theorem lf_aF {B : Nat → Int} {K : Nat} {t : Tk} (hK : K < 3) (h : ¬ t.1 = 2) (hl : t.2.1 < t.2.2) (h4 : ¬ (t.2.2 = t.2.1 + 1 ∧ 0 ≤ ixS (3 + K) (B t.2.1))) : lfc B ((K : Nat) : Int) t = -1 := by
  rw [nm_ix hK] at h4
  unfold lfc; rw [if_neg h, if_neg (fun q => h4 ⟨by omega, q.2⟩)]
/-- what readPiece keeps -/
def PCt (γ : GT) (B : Nat → Int) (n K o k : Nat) : Prop := ∀ (d : Nat) (h : Nat → Nat → Int) (τ : List AC) (Post : Option AV → List AC → Prop) (a : List Int) (t : Tk), 7 * (8 - o) + (8 - k) + 8 ≤ d → CSt B n K h a t → a.length ≤ t.2.1 → (∀ (h' : Nat → Nat → Int) (t' : Tk) (cs : List Int), Fr [84, 86] h h' → GR B n ((K : Nat) : Int) 5 o k t true t' cs → CSt B n K h' (a ++ cs) t' → Post (some (vI 1)) (mk h' τ)) → (∀ (h' : Nat → Nat → Int) (t' : Tk) (cs : List Int), Fr [84, 86] h h' → GR B n ((K : Nat) : Int) 5 o k t false t' cs → CFt h' t' → Post (some (vI 0)) (mk h' τ)) → Cj γ mX3_readPiece d 0 0 [vA 84, vI ((o : Nat) : Int), vI ((k : Nat) : Int)] (mk h τ) Post
/-- what readLevel keeps -/
def LCt (γ : GT) (B : Nat → Int) (n K L o k : Nat) : Prop := ∀ (d : Nat) (h : Nat → Nat → Int) (τ : List AC) (Post : Option AV → List AC → Prop) (a : List Int) (t : Tk), 7 * (8 - o) + (8 - k) + (14 - L) ≤ d → CSt B n K h a t → a.length ≤ t.2.1 → (∀ (h' : Nat → Nat → Int) (t' : Tk) (cs : List Int), Fr [84, 86] h h' → GR B n ((K : Nat) : Int) L o k t true t' cs → CSt B n K h' (a ++ cs) t' → Post (some (vI 1)) (mk h' τ)) → (∀ (h' : Nat → Nat → Int) (t' : Tk) (cs : List Int), Fr [84, 86] h h' → GR B n ((K : Nat) : Int) L o k t false t' cs → CFt h' t' → Post (some (vI 0)) (mk h' τ)) → Cj γ mX3_readLevel d 0 0 [vA 84, vI ((L : Nat) : Int), vI ((o : Nat) : Int), vI ((k : Nat) : Int)] (mk h τ) Post
