/-- the class's codes as the reference's -/
def cmX (c : Int) : Int := if c < 20000 then c else if c = 20033 then -10 else sgF (c - 20000)
def okX (c : Int) : Prop := (0 ≤ c ∧ c ≤ 10002) ∨ c = 20033 ∨ (20000 < c ∧ c ≤ 20124 ∧ ¬ sgF (c - 20000) = 0)
theorem sg_in {g : Int} (h : ¬ sgF g = 0) : g = 124 ∨ g = 38 ∨ g = 60 ∨ g = 61 ∨ g = 62 ∨ g = 43 ∨ g = 45 ∨ g = 42 ∨ g = 47 := by
  unfold sgF at h
  by_cases h1 : g = 124 ∨ g = 38 ∨ g = 60 ∨ g = 61 ∨ g = 62 ∨ g = 43 ∨ g = 45 ∨ g = 42 ∨ g = 47
  · exact h1
  · exfalso
    apply h
    simp only [not_or] at h1
    obtain ⟨a1, a2, a3, a4, a5, a6, a7, a8, a9⟩ := h1
    rw [if_neg a1, if_neg a2, if_neg a3, if_neg a4, if_neg a5, if_neg a6, if_neg a7, if_neg a8, if_neg a9]
theorem jn_two {g a b : Int} (h : ¬ sgF g = 0) : jnF g a b = twoF (sgF g) a b := by
  rcases sg_in h with rfl | rfl | rfl | rfl | rfl | rfl | rfl | rfl | rfl <;> rfl
theorem sg_rng {g : Int} (h : ¬ sgF g = 0) : -9 ≤ sgF g ∧ sgF g ≤ -1 := by
  rcases sg_in h with rfl | rfl | rfl | rfl | rfl | rfl | rfl | rfl | rfl <;> decide
set_option maxHeartbeats 8000000 in
theorem l_worth {γ : GT} {d : Nat} {q q2 n : Nat} {a b c : Int} {fa cx ft : Nat → Int} {h : Nat → Nat → Int} {τ : List AC} {Post : Option AV → List AC → Prop} (hd : 1 ≤ d) (hn : n ≤ 96) (hq : τ[q]? = some (4, 3, ft)) (hft : ft 2 = ((154 + q2 : Nat) : Int)) (hq2 : τ[q2]? = some (12, n, cx)) (hX : ∀ k, k < n → okX (cx k)) (hwf : wfC (fun j => cmX (cx j)) n) (hfa : ∀ z : Int, 10000 ≤ z → z ≤ 10002 → fa (Int.toNat (z - 10000)) = if z - 10000 = 0 then a else if z - 10000 = 1 then b else c) (kQ : ∀ g : Nat → Int, Post (some (vI (wrF fa (fun j => cmX (cx j)) n))) (mk (upR h 75 g) τ)) :
    ∀ (f k tp : Nat) (g : Nat → Int), k ≤ n → n < k + f → tp = dpt (fun j => cmX (cx j)) k → skR g (evL fa (fun j => cmX (cx j)) k) → Aj γ mX4_worth d 0 0 Post 6 [(6, vI ((k : Nat) : Int)), (5, vI ((tp : Nat) : Int)), (0, vA (154 + q)), (1, vA 75), (2, vI a), (3, vI b), (4, vI c)] [] (mk (upR h 75 g) τ) := by
  intro f
  induction f with
  | zero => intro k tp g h1 h2; omega
  | succ f ih =>
    intro k tp g h1 h2 htp hsk
    have hlen : (evL fa (fun j => cmX (cx j)) k).length = tp := by rw [htp]; exact evL_len hwf k h1
    refine a_iload (j := 0) dX4_worth_6 rfl ?_
    refine a_aload_n (j := 2) dX4_worth_8 rfl rfl (Nat.le_of_ble_eq_true rfl) ?_
    refine a_get (a := (154 + q)) (κ := 4) (n := 3) (f := ft) (v := vA (154 + q2)) dX4_worth_9 fwX4_16 ((mk_dyn q).trans hq) (by decide) (show (et 4 2, ft 2) = vA (154 + q2) by rw [hft]; rfl) ?_
    refine a_alen (a := (154 + q2)) (κ := 12) (n := n) (f := cx) dX4_worth_12 ((mk_dyn q2).trans hq2) ⟨by decide, by decide⟩ (by omega) ?_
    refine a_icmp_ge (tgt := 152) dX4_worth_13 (by decide) (fun c13_1 => ?_) (fun c13_1 => ?_)
    · refine a_iload (j := 1) dX4_worth_152 rfl ?_
      refine a_if_le (tgt := 163) dX4_worth_154 (by decide) (fun c154_2 => ?_) (fun c154_2 => ?_)
      · refine a_iconst dX4_worth_163 ⟨by decide, by decide⟩ ?_
        exact a_iret dX4_worth_164 rfl (by exfalso; obtain rfl : k = n := (by omega); have h1 := hwf.1; omega)
      · refine a_aload_n (j := 3) dX4_worth_157 rfl rfl (Nat.le_of_ble_eq_true rfl) ?_
        refine a_iconst dX4_worth_158 ⟨by decide, by decide⟩ ?_
        refine b_iaload (a := 75) (z := g 0) 0 dX4_worth_159 (by decide) rfl rfl (by decide) rfl upR_v (fun r159_3 => ?_)
        refine a_goto (tgt := 164) dX4_worth_160 (by decide) ?_
        exact a_iret dX4_worth_164 rfl (by obtain rfl : k = n := (by omega); have h1 := hwf.1; have h2 := skR_one (by omega) hsk; have h3 : wrF fa (fun j => cmX (cx j)) k = g 0 := (by unfold wrF; rw [h2]; rfl); rw [h3] at kQ; exact kQ g)
    · have hok := hX k (by omega)
      have hwk : dpt (fun j => cmX (cx j)) k ≤ 95 ∧ -10 ≤ cmX (cx k) ∧ cmX (cx k) ≤ 10002 ∧ (cmX (cx k) = -10 → 1 ≤ dpt (fun j => cmX (cx j)) k) ∧ (cmX (cx k) < 0 → ¬ cmX (cx k) = -10 → 2 ≤ dpt (fun j => cmX (cx j)) k) := hwf.2 k (by omega)
      have hub : cx k ≤ 20124 := (by rcases hok with h | h | h <;> omega)
      have hwk1 := hwk.1
      have hwk4 := hwk.2.2.2.1
      have hwk5 := hwk.2.2.2.2
      refine a_aload_n (j := 2) dX4_worth_16 rfl rfl (Nat.le_of_ble_eq_true rfl) ?_
      refine a_get (a := (154 + q)) (κ := 4) (n := 3) (f := ft) (v := vA (154 + q2)) dX4_worth_17 fwX4_16 ((mk_dyn q).trans hq) (by decide) (show (et 4 2, ft 2) = vA (154 + q2) by rw [hft]; rfl) ?_
      refine a_iload (j := 0) dX4_worth_20 rfl ?_
      refine a_iaload (a := (154 + q2)) (n := n) (f := cx) (z := cx k) k dX4_worth_22 ((mk_dyn q2).trans hq2) rfl (by omega) rfl (fun r22_4 => ?_)
      refine a_istore (lv' := [(7, vI (cx k)), (6, vI ((k : Nat) : Int)), (5, vI ((tp : Nat) : Int)), (0, vA (154 + q)), (1, vA 75), (2, vI a), (3, vI b), (4, vI c)]) dX4_worth_23 (by decide) rfl ?_
      refine a_iload (j := 0) dX4_worth_25 rfl ?_
      refine a_sipush dX4_worth_27 ⟨by decide, by decide, by decide⟩ ?_
      refine a_icmp_ge (tgt := 76) dX4_worth_30 (by decide) (fun c30_5 => ?_) (fun c30_5 => ?_)
      · refine a_iload (j := 0) dX4_worth_76 rfl ?_
        refine a_sipush dX4_worth_78 ⟨by decide, by decide, by decide⟩ ?_
        refine a_icmp_ne (tgt := 112) dX4_worth_81 (by decide) (fun c81_6 => ?_) (fun c81_6 => ?_)
        · have hsg : ¬ sgF (cx k - 20000) = 0 := (by rcases hok with h | h | h <;> omega)
          have hm : cmX (cx k) = sgF (cx k - 20000) := (by unfold cmX; rw [if_neg (by omega), if_neg (by omega)])
          have hrg := sg_rng hsg
          have hd2 := hwk5 (by omega) (by omega)
          obtain ⟨t2, rfl⟩ : ∃ t2 : Nat, tp = t2 + 2 := ⟨tp - 2, by omega⟩
          obtain ⟨sb, sa, sr, hs⟩ : ∃ sb sa sr, evL fa (fun j => cmX (cx j)) k = sb :: sa :: sr := by
            revert hlen; cases evL fa (fun j => cmX (cx j)) k with
            | nil => intro hlen; simp at hlen
            | cons b r =>
              cases r with
              | nil => intro hlen; simp at hlen
              | cons a r => intro _; exact ⟨b, a, r, rfl⟩
          rw [hs] at hsk hlen
          have hr : sr.length = t2 := by simpa using hlen
          have hg := hsk.1
          have hg2 := hsk.2.1
          rw [List.length_cons, hr] at hg
          rw [hr] at hg2
          refine a_iload (j := 2) dX4_worth_112 rfl ?_
          refine a_iconst dX4_worth_114 ⟨by decide, by decide⟩ ?_
          refine a_icmp_le (tgt := 146) dX4_worth_115 (by decide) (fun c115_7 => absurd c115_7 (by omega)) (fun c115_7 => ?_)
          refine a_iinc (j := 2) (z' := ((t2 + 1 : Nat) : Int)) (lv' := [(5, vI ((t2 + 1 : Nat) : Int)), (7, vI (cx k)), (6, vI ((k : Nat) : Int)), (0, vA (154 + q)), (1, vA 75), (2, vI a), (3, vI b), (4, vI c)]) dX4_worth_118 rfl (w_okN (by omega) (by omega) (by omega)) (by decide) rfl ?_
          refine a_aload_n (j := 4) dX4_worth_121 rfl rfl (Nat.le_of_ble_eq_true rfl) ?_
          refine a_iload (j := 0) dX4_worth_122 rfl ?_
          refine a_iconst dX4_worth_124 ⟨by decide, by decide⟩ ?_
          refine a_isub (z := (((t2 + 1 : Nat) : Int) - 1)) dX4_worth_125 (w_ok (by omega) (by omega)) ?_
          refine a_iload (j := 1) dX4_worth_126 rfl ?_
          refine a_sipush dX4_worth_128 ⟨by decide, by decide, by decide⟩ ?_
          refine a_isub (z := ((cx k) - 20000)) dX4_worth_131 (w_ok (by omega) (by omega)) ?_
          refine a_aload_n (j := 4) dX4_worth_132 rfl rfl (Nat.le_of_ble_eq_true rfl) ?_
          refine a_iload (j := 0) dX4_worth_133 rfl ?_
          refine a_iconst dX4_worth_135 ⟨by decide, by decide⟩ ?_
          refine a_isub (z := (((t2 + 1 : Nat) : Int) - 1)) dX4_worth_136 (w_ok (by omega) (by omega)) ?_
          refine b_iaload (a := 75) (z := sa) t2 dX4_worth_137 (by decide) rfl (by omega) (by omega) (sp_nil rfl _) (upR_v.trans hg2) (fun r137_8 => ?_)
          refine a_aload_n (j := 4) dX4_worth_138 rfl rfl (Nat.le_of_ble_eq_true rfl) ?_
          refine a_iload (j := 0) dX4_worth_139 rfl ?_
          refine b_iaload (a := 75) (z := sb) (t2 + 1) dX4_worth_141 (by decide) rfl rfl (by omega) (sp_nil rfl _) (upR_v.trans hg) (fun r141_9 => ?_)
          refine a_callS (d' := d - 1) (mc' := 0) (ms' := 0) (mc1 := 0) (ms1 := 0) (st := [vI (((t2 + 1 : Nat) : Int) - 1), vA 75]) [vI ((cx k) - 20000), vI sa, vI sb] dX4_worth_142 mwX4_joined lkX4_24 rfl (Nat.le_of_ble_eq_true rfl) (by omega) rfl rfl (c_X4_joined  (by omega)    ?_)
          show Aj γ mX4_worth d 0 0 Post 145 [(5, vI ((t2 + 1 : Nat) : Int)), (7, vI (cx k)), (6, vI ((k : Nat) : Int)), (0, vA (154 + q)), (1, vA 75), (2, vI a), (3, vI b), (4, vI c)] [vI (jnF ((cx k) - 20000) sa sb), vI (((t2 + 1 : Nat) : Int) - 1), vA 75] (mk (upR h 75 g) τ)
          refine b_iastore (a := 75) t2 dX4_worth_145 (by decide) rfl (by omega) (by omega) (sp_nil rfl _) ?_
          refine a_iinc (j := 2) (z' := ((k + 1 : Nat) : Int)) (lv' := [(6, vI ((k + 1 : Nat) : Int)), (5, vI ((t2 + 1 : Nat) : Int)), (7, vI (cx k)), (0, vA (154 + q)), (1, vA 75), (2, vI a), (3, vI b), (4, vI c)]) dX4_worth_146 rfl (w_okN (by omega) (by omega) (by omega)) (by decide) rfl ?_
          refine a_goto (tgt := 6) dX4_worth_149 (by decide) ?_
          rw [up2_R]
          have he : evL fa (fun j => cmX (cx j)) (k + 1) = (jnF ((cx k) - 20000) sa sb) :: sr := (by show evS fa (cmX (cx k)) _ = _; rw [hm]; unfold evS; rw [if_neg (by omega), if_neg (by omega), hs]; exact congrArg (fun z => z :: sr) (jn_two hsg).symm)
          refine a_lv (lv' := [(6, vI ((k + 1 : Nat) : Int)), (5, vI ((t2 + 1 : Nat) : Int)), (0, vA (154 + q)), (1, vA 75), (2, vI a), (3, vI b), (4, vI c)]) (by intro q hq; simp only [List.mem_cons, List.not_mem_nil, or_false] at hq ⊢; rcases hq with rfl | rfl | rfl | rfl | rfl | rfl | rfl <;> simp) (ih (k + 1) _ _ (by omega) (by omega) (by have e2 : dpt (fun j => cmX (cx j)) (k + 1) = dpt (fun j => cmX (cx j)) k - 1 := (by show (if 0 ≤ cmX (cx k) then dpt (fun j => cmX (cx j)) k + 1 else if cmX (cx k) = -10 then dpt (fun j => cmX (cx j)) k else dpt (fun j => cmX (cx j)) k - 1) = _; rw [if_neg (by omega), if_neg (by omega)]); omega) (by rw [he]; exact skR_push hr hsk.2.2))
        · have hm : cmX (cx k) = -10 := (by unfold cmX; rw [if_neg (by omega), if_pos (by omega)])
          have hd1 := hwk4 hm
          obtain ⟨t2, rfl⟩ : ∃ t2 : Nat, tp = t2 + 1 := ⟨tp - 1, by omega⟩
          obtain ⟨sa, sr, hs⟩ : ∃ sa sr, evL fa (fun j => cmX (cx j)) k = sa :: sr := by
            revert hlen; cases evL fa (fun j => cmX (cx j)) k with
            | nil => intro hlen; simp at hlen
            | cons a r => intro _; exact ⟨a, r, rfl⟩
          rw [hs] at hsk hlen
          have hr : sr.length = t2 := by simpa using hlen
          have hg := hsk.1
          rw [hr] at hg
          refine a_iload (j := 2) dX4_worth_84 rfl ?_
          refine a_if_le (tgt := 146) dX4_worth_86 (by decide) (fun c86_10 => absurd c86_10 (by omega)) (fun c86_10 => ?_)
          refine a_aload_n (j := 4) dX4_worth_89 rfl rfl (Nat.le_of_ble_eq_true rfl) ?_
          refine a_iload (j := 2) dX4_worth_90 rfl ?_
          refine a_iconst dX4_worth_92 ⟨by decide, by decide⟩ ?_
          refine a_isub (z := (((t2 + 1 : Nat) : Int) - 1)) dX4_worth_93 (w_ok (by omega) (by omega)) ?_
          refine a_aload_n (j := 4) dX4_worth_94 rfl rfl (Nat.le_of_ble_eq_true rfl) ?_
          refine a_iload (j := 2) dX4_worth_95 rfl ?_
          refine a_iconst dX4_worth_97 ⟨by decide, by decide⟩ ?_
          refine a_isub (z := (((t2 + 1 : Nat) : Int) - 1)) dX4_worth_98 (w_ok (by omega) (by omega)) ?_
          refine b_iaload (a := 75) (z := sa) t2 dX4_worth_99 (by decide) rfl (by omega) (by omega) (sp_nil rfl _) (upR_v.trans hg) (fun r99_11 => ?_)
          refine a_if_ne (tgt := 107) dX4_worth_100 (by decide) (fun c100_12 => ?_) (fun c100_12 => ?_)
          · refine a_iconst dX4_worth_107 ⟨by decide, by decide⟩ ?_
            refine b_iastore (a := 75) t2 dX4_worth_108 (by decide) rfl (by omega) (by omega) (sp_nil rfl _) ?_
            refine a_goto (tgt := 146) dX4_worth_109 (by decide) ?_
            refine a_iinc (j := 1) (z' := ((k + 1 : Nat) : Int)) (lv' := [(6, vI ((k + 1 : Nat) : Int)), (7, vI (cx k)), (5, vI ((t2 + 1 : Nat) : Int)), (0, vA (154 + q)), (1, vA 75), (2, vI a), (3, vI b), (4, vI c)]) dX4_worth_146 rfl (w_okN (by omega) (by omega) (by omega)) (by decide) rfl ?_
            refine a_goto (tgt := 6) dX4_worth_149 (by decide) ?_
            rw [up2_R]
            have he : evL fa (fun j => cmX (cx j)) (k + 1) = 0 :: sr := (by show evS fa (cmX (cx k)) _ = _; rw [hm]; unfold evS; rw [if_neg (by decide), if_pos rfl, hs]; show (if sa = 0 then (1 : Int) else 0) :: sr = _; first | rw [if_pos (by omega)] | rw [if_neg (by omega)])
            refine a_lv (lv' := [(6, vI ((k + 1 : Nat) : Int)), (5, vI ((t2 + 1 : Nat) : Int)), (0, vA (154 + q)), (1, vA 75), (2, vI a), (3, vI b), (4, vI c)]) (by intro q hq; simp only [List.mem_cons, List.not_mem_nil, or_false] at hq ⊢; rcases hq with rfl | rfl | rfl | rfl | rfl | rfl | rfl <;> simp) (ih (k + 1) _ _ (by omega) (by omega) (by rw [htp]; show dpt (fun j => cmX (cx j)) k = (if 0 ≤ cmX (cx k) then dpt (fun j => cmX (cx j)) k + 1 else if cmX (cx k) = -10 then dpt (fun j => cmX (cx j)) k else dpt (fun j => cmX (cx j)) k - 1); rw [if_neg (by omega), if_pos hm]) (by rw [he]; exact skR_push hr hsk.2))
          · refine a_iconst dX4_worth_103 ⟨by decide, by decide⟩ ?_
            refine a_goto (tgt := 108) dX4_worth_104 (by decide) ?_
            refine b_iastore (a := 75) t2 dX4_worth_108 (by decide) rfl (by omega) (by omega) (sp_nil rfl _) ?_
            refine a_goto (tgt := 146) dX4_worth_109 (by decide) ?_
            refine a_iinc (j := 1) (z' := ((k + 1 : Nat) : Int)) (lv' := [(6, vI ((k + 1 : Nat) : Int)), (7, vI (cx k)), (5, vI ((t2 + 1 : Nat) : Int)), (0, vA (154 + q)), (1, vA 75), (2, vI a), (3, vI b), (4, vI c)]) dX4_worth_146 rfl (w_okN (by omega) (by omega) (by omega)) (by decide) rfl ?_
            refine a_goto (tgt := 6) dX4_worth_149 (by decide) ?_
            rw [up2_R]
            have he : evL fa (fun j => cmX (cx j)) (k + 1) = 1 :: sr := (by show evS fa (cmX (cx k)) _ = _; rw [hm]; unfold evS; rw [if_neg (by decide), if_pos rfl, hs]; show (if sa = 0 then (1 : Int) else 0) :: sr = _; first | rw [if_pos (by omega)] | rw [if_neg (by omega)])
            refine a_lv (lv' := [(6, vI ((k + 1 : Nat) : Int)), (5, vI ((t2 + 1 : Nat) : Int)), (0, vA (154 + q)), (1, vA 75), (2, vI a), (3, vI b), (4, vI c)]) (by intro q hq; simp only [List.mem_cons, List.not_mem_nil, or_false] at hq ⊢; rcases hq with rfl | rfl | rfl | rfl | rfl | rfl | rfl <;> simp) (ih (k + 1) _ _ (by omega) (by omega) (by rw [htp]; show dpt (fun j => cmX (cx j)) k = (if 0 ≤ cmX (cx k) then dpt (fun j => cmX (cx j)) k + 1 else if cmX (cx k) = -10 then dpt (fun j => cmX (cx j)) k else dpt (fun j => cmX (cx j)) k - 1); rw [if_neg (by omega), if_pos hm]) (by rw [he]; exact skR_push hr hsk.2))
      · have hm : cmX (cx k) = cx k := (by unfold cmX; rw [if_pos (by omega)])
        have hp : 0 ≤ cx k ∧ cx k ≤ 10002 := (by rcases hok with h | h | h <;> omega)
        refine a_iload (j := 2) dX4_worth_33 rfl ?_
        refine a_aload_n (j := 4) dX4_worth_35 rfl rfl (Nat.le_of_ble_eq_true rfl) ?_
        refine b_alen (a := 75) dX4_worth_36 (by decide) rfl ⟨by decide, by decide⟩ (by decide) ?_
        refine a_icmp_ge (tgt := 146) dX4_worth_37 (by decide) (fun c37_13 => absurd c37_13 (by omega)) (fun c37_13 => ?_)
        refine a_aload_n (j := 4) dX4_worth_40 rfl rfl (Nat.le_of_ble_eq_true rfl) ?_
        refine a_iload (j := 2) dX4_worth_41 rfl ?_
        refine a_iload (j := 0) dX4_worth_43 rfl ?_
        refine a_sipush dX4_worth_45 ⟨by decide, by decide, by decide⟩ ?_
        refine a_icmp_ge (tgt := 56) dX4_worth_48 (by decide) (fun c48_14 => ?_) (fun c48_14 => ?_)
        · refine a_iload (j := 0) dX4_worth_56 rfl ?_
          refine a_sipush dX4_worth_58 ⟨by decide, by decide, by decide⟩ ?_
          refine a_isub (z := ((cx k) - 10000)) dX4_worth_61 (w_ok (by omega) (by omega)) ?_
          refine a_iload_n (j := 5) dX4_worth_62 rfl rfl ?_
          refine a_iload_n (j := 6) dX4_worth_63 rfl rfl ?_
          refine a_iload (j := 7) dX4_worth_64 rfl ?_
          refine a_callS (d' := d - 1) (mc' := 0) (ms' := 0) (mc1 := 0) (ms1 := 0) (st := [vI ((tp : Nat) : Int), vA 75]) [vI ((cx k) - 10000), vI a, vI b, vI c] dX4_worth_66 mwX4_named lkX4_20 rfl (Nat.le_of_ble_eq_true rfl) (by omega) rfl rfl (c_X4_named  (by omega)    ?_)
          show Aj γ mX4_worth d 0 0 Post 69 [(7, vI (cx k)), (6, vI ((k : Nat) : Int)), (5, vI ((tp : Nat) : Int)), (0, vA (154 + q)), (1, vA 75), (2, vI a), (3, vI b), (4, vI c)] [vI (if ((cx k) - 10000) = 0 then a else if ((cx k) - 10000) = 1 then b else c), vI ((tp : Nat) : Int), vA 75] (mk (upR h 75 g) τ)
          refine b_iastore (a := 75) tp dX4_worth_69 (by decide) rfl rfl (by omega) (sp_nil rfl _) ?_
          refine a_iinc (j := 2) (z' := ((tp + 1 : Nat) : Int)) (lv' := [(5, vI ((tp + 1 : Nat) : Int)), (7, vI (cx k)), (6, vI ((k : Nat) : Int)), (0, vA (154 + q)), (1, vA 75), (2, vI a), (3, vI b), (4, vI c)]) dX4_worth_70 rfl (w_okN (by omega) (by omega) (by omega)) (by decide) rfl ?_
          refine a_goto (tgt := 146) dX4_worth_73 (by decide) ?_
          refine a_iinc (j := 2) (z' := ((k + 1 : Nat) : Int)) (lv' := [(6, vI ((k + 1 : Nat) : Int)), (5, vI ((tp + 1 : Nat) : Int)), (7, vI (cx k)), (0, vA (154 + q)), (1, vA 75), (2, vI a), (3, vI b), (4, vI c)]) dX4_worth_146 rfl (w_okN (by omega) (by omega) (by omega)) (by decide) rfl ?_
          refine a_goto (tgt := 6) dX4_worth_149 (by decide) ?_
          rw [up2_R]
          have he : evL fa (fun j => cmX (cx j)) (k + 1) = (if ((cx k) - 10000) = 0 then a else if ((cx k) - 10000) = 1 then b else c) :: evL fa (fun j => cmX (cx j)) k := (by show evS fa (cmX (cx k)) _ = _; rw [hm]; unfold evS; rw [if_pos (by omega)]; first | (rw [if_pos (by omega)]; done) | (rw [if_neg (by omega)]; congr 1; exact hfa _ (by omega) (by omega)))
          refine a_lv (lv' := [(6, vI ((k + 1 : Nat) : Int)), (5, vI ((tp + 1 : Nat) : Int)), (0, vA (154 + q)), (1, vA 75), (2, vI a), (3, vI b), (4, vI c)]) (by intro q hq; simp only [List.mem_cons, List.not_mem_nil, or_false] at hq ⊢; rcases hq with rfl | rfl | rfl | rfl | rfl | rfl | rfl <;> simp) (ih (k + 1) _ _ (by omega) (by omega) (by rw [htp]; show dpt (fun j => cmX (cx j)) k + 1 = (if 0 ≤ cmX (cx k) then dpt (fun j => cmX (cx j)) k + 1 else if cmX (cx k) = -10 then dpt (fun j => cmX (cx j)) k else dpt (fun j => cmX (cx j)) k - 1); rw [if_pos (by omega)]) (by rw [he]; exact skR_push hlen hsk))
        · refine a_iload (j := 0) dX4_worth_51 rfl ?_
          refine a_goto (tgt := 69) dX4_worth_53 (by decide) ?_
          refine b_iastore (a := 75) tp dX4_worth_69 (by decide) rfl rfl (by omega) (sp_nil rfl _) ?_
          refine a_iinc (j := 2) (z' := ((tp + 1 : Nat) : Int)) (lv' := [(5, vI ((tp + 1 : Nat) : Int)), (7, vI (cx k)), (6, vI ((k : Nat) : Int)), (0, vA (154 + q)), (1, vA 75), (2, vI a), (3, vI b), (4, vI c)]) dX4_worth_70 rfl (w_okN (by omega) (by omega) (by omega)) (by decide) rfl ?_
          refine a_goto (tgt := 146) dX4_worth_73 (by decide) ?_
          refine a_iinc (j := 2) (z' := ((k + 1 : Nat) : Int)) (lv' := [(6, vI ((k + 1 : Nat) : Int)), (5, vI ((tp + 1 : Nat) : Int)), (7, vI (cx k)), (0, vA (154 + q)), (1, vA 75), (2, vI a), (3, vI b), (4, vI c)]) dX4_worth_146 rfl (w_okN (by omega) (by omega) (by omega)) (by decide) rfl ?_
          refine a_goto (tgt := 6) dX4_worth_149 (by decide) ?_
          rw [up2_R]
          have he : evL fa (fun j => cmX (cx j)) (k + 1) = (cx k) :: evL fa (fun j => cmX (cx j)) k := (by show evS fa (cmX (cx k)) _ = _; rw [hm]; unfold evS; rw [if_pos (by omega)]; first | (rw [if_pos (by omega)]; done) | (rw [if_neg (by omega)]; congr 1; exact hfa _ (by omega) (by omega)))
          refine a_lv (lv' := [(6, vI ((k + 1 : Nat) : Int)), (5, vI ((tp + 1 : Nat) : Int)), (0, vA (154 + q)), (1, vA 75), (2, vI a), (3, vI b), (4, vI c)]) (by intro q hq; simp only [List.mem_cons, List.not_mem_nil, or_false] at hq ⊢; rcases hq with rfl | rfl | rfl | rfl | rfl | rfl | rfl <;> simp) (ih (k + 1) _ _ (by omega) (by omega) (by rw [htp]; show dpt (fun j => cmX (cx j)) k + 1 = (if 0 ≤ cmX (cx k) then dpt (fun j => cmX (cx j)) k + 1 else if cmX (cx k) = -10 then dpt (fun j => cmX (cx j)) k else dpt (fun j => cmX (cx j)) k - 1); rw [if_pos (by omega)]) (by rw [he]; exact skR_push hlen hsk))
theorem c_X4_worth {γ : GT} {d : Nat} {q q2 n : Nat} {a b c : Int} {fa cx ft : Nat → Int} {h : Nat → Nat → Int} {τ : List AC} {Post : Option AV → List AC → Prop} (hd : 1 ≤ d) (hn : n ≤ 96) (hq : τ[q]? = some (4, 3, ft)) (hft : ft 2 = ((154 + q2 : Nat) : Int)) (hq2 : τ[q2]? = some (12, n, cx)) (hX : ∀ k, k < n → okX (cx k)) (hwf : wfC (fun j => cmX (cx j)) n) (hfa : ∀ z : Int, 10000 ≤ z → z ≤ 10002 → fa (Int.toNat (z - 10000)) = if z - 10000 = 0 then a else if z - 10000 = 1 then b else c) (kQ : ∀ g : Nat → Int, Post (some (vI (wrF fa (fun j => cmX (cx j)) n))) (mk (upR h 75 g) τ)) : Cj γ mX4_worth d 0 0 [vA (154 + q), vA 75, vI a, vI b, vI c] (mk h τ) Post := by
  refine c_of (by decide) (Nat.le_of_ble_eq_true rfl) ?_
  show Aj γ mX4_worth d 0 0 Post 0 [(0, vA (154 + q)), (1, vA 75), (2, vI a), (3, vI b), (4, vI c)] [] (mk h τ)
  refine a_iconst dX4_worth_0 ⟨by decide, by decide⟩ ?_
  refine a_istore (lv' := [(5, vI 0), (0, vA (154 + q)), (1, vA 75), (2, vI a), (3, vI b), (4, vI c)]) dX4_worth_1 (by decide) rfl ?_
  refine a_iconst dX4_worth_3 ⟨by decide, by decide⟩ ?_
  refine a_istore (lv' := [(6, vI 0), (5, vI 0), (0, vA (154 + q)), (1, vA 75), (2, vI a), (3, vI b), (4, vI c)]) dX4_worth_4 (by decide) rfl ?_
  have hl := l_worth (γ := γ) (d := d) (τ := τ) (Post := Post) (h := h) hd hn hq hft hq2 hX hwf hfa kQ (n + 1) 0 0 (h 75) (by omega) (by omega) rfl trivial
  rw [upR_id rfl] at hl
  exact a_lv (lv' := [(6, vI ((0 : Nat) : Int)), (5, vI ((0 : Nat) : Int)), (0, vA (154 + q)), (1, vA 75), (2, vI a), (3, vI b), (4, vI c)]) (by intro q hq; simp only [List.mem_cons, List.not_mem_nil, or_false] at hq ⊢; rcases hq with rfl | rfl | rfl | rfl | rfl | rfl | rfl <;> simp) hl
