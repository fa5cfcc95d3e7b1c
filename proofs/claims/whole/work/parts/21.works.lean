/-- one code over a stack, top first -/
def evS (fa : Nat → Int) (c : Int) (s : List Int) : List Int :=
  if 0 ≤ c then (if c < 10000 then c else fa (Int.toNat (c - 10000))) :: s
  else if c = -10 then (match s with | a :: r => (if a = 0 then 1 else 0) :: r | [] => [])
  else (match s with | b :: a :: r => twoF c a b :: r | _ => s)
def evL (fa cd : Nat → Int) : Nat → List Int
  | 0 => []
  | k + 1 => evS fa (cd k) (evL fa cd k)
/-- how deep the stack is -/
def dpt (cd : Nat → Int) : Nat → Nat
  | 0 => 0
  | k + 1 => if 0 ≤ cd k then dpt cd k + 1 else if cd k = -10 then dpt cd k else dpt cd k - 1
/-- n codes that leave one number, within the stack -/
def wfC (cd : Nat → Int) (n : Nat) : Prop := dpt cd n = 1 ∧ ∀ k, k < n → dpt cd k ≤ 95 ∧ -10 ≤ cd k ∧ cd k ≤ 10002 ∧ (cd k = -10 → 1 ≤ dpt cd k) ∧ (cd k < 0 → ¬ cd k = -10 → 2 ≤ dpt cd k)
theorem evL_len {fa cd : Nat → Int} {n : Nat} (h : wfC cd n) : ∀ k, k ≤ n → (evL fa cd k).length = dpt cd k
  | 0, _ => rfl
  | k + 1, hk => by
    have ih := evL_len (fa := fa) h k (by omega)
    obtain ⟨h1, h2, h3, h4, h5⟩ := h.2 k (by omega)
    show (evS fa (cd k) (evL fa cd k)).length = if 0 ≤ cd k then dpt cd k + 1 else if cd k = -10 then dpt cd k else dpt cd k - 1
    unfold evS
    by_cases c1 : 0 ≤ cd k
    · rw [if_pos c1, if_pos c1, List.length_cons, ih]
    · rw [if_neg c1, if_neg c1]
      by_cases c2 : cd k = -10
      · rw [if_pos c2, if_pos c2]
        have := h4 c2
        revert ih
        cases evL fa cd k with
        | nil => intro ih; simp at ih; omega
        | cons a r => intro ih; simpa using ih
      · rw [if_neg c2, if_neg c2]
        have := h5 (by omega) c2
        revert ih
        cases evL fa cd k with
        | nil => intro ih; simp at ih; omega
        | cons b r =>
          cases r with
          | nil => intro ih; simp at ih; omega
          | cons a r => intro ih; simp at ih ⊢; omega
/-- a row holds a stack: its bottom at place 0 -/
def skR (g : Nat → Int) : List Int → Prop
  | [] => True
  | a :: r => g r.length = a ∧ skR g r
theorem skR_up {g : Nat → Int} {k : Nat} {v : Int} : ∀ {s : List Int}, s.length ≤ k → skR g s → skR (up g k v) s
  | [], _, _ => trivial
  | a :: r, hl, h => by
    simp only [List.length_cons] at hl
    refine ⟨?_, skR_up (by omega) h.2⟩
    unfold up
    rw [if_neg (by omega)]
    exact h.1
theorem skR_push {g : Nat → Int} {k : Nat} {v : Int} {s : List Int} (hl : s.length = k) (h : skR g s) : skR (up g k v) (v :: s) := by
  refine ⟨?_, skR_up (by omega) h⟩
  unfold up
  rw [if_pos hl]
theorem skR_one {g : Nat → Int} {s : List Int} (hl : s.length = 1) (h : skR g s) : s = [g 0] := by
  match s, hl, h with
  | [a], _, h => exact congrArg (fun x => [x]) h.1.symm
/-- what a text is worth -/
def wrF (fa cd : Nat → Int) (n : Nat) : Int := (evL fa cd n).headD 0
set_option maxHeartbeats 8000000 in
theorem l_works {γ : GT} {d : Nat} {t n : Nat} {fa cd : Nat → Int} {h : Nat → Nat → Int} {τ : List AC} {Post : Option AV → List AC → Prop} (hd : 1 ≤ d) (ht : t ≤ 13) (hn : n ≤ 96) (hwf : wfC cd n) (hc : ∀ k, k < n → h 124 (201 + 96 * t + k) = cd k) (hf : ∀ k, k < 3 → h 144 k = fa k) (kQ : ∀ g : Nat → Int, Post (some (vI (wrF fa cd n))) (mk (upR h 143 g) τ)) :
    ∀ (f k tp : Nat) (g : Nat → Int), k ≤ n → n < k + f → tp = dpt cd k → skR g (evL fa cd k) → Aj γ mX9_worksOut d 0 0 Post 22 [(4, vI ((k : Nat) : Int)), (3, vI ((n : Nat) : Int)), (2, vI ((tp : Nat) : Int)), (0, vA 123), (1, vI ((t : Nat) : Int))] [] (mk (upR h 143 g) τ) := by
  intro f
  induction f with
  | zero => intro k tp g h1 h2; omega
  | succ f ih =>
    intro k tp g h1 h2 htp hsk
    have hlen : (evL fa cd k).length = tp := by rw [htp]; exact evL_len hwf k h1
    have hwk := hwf.2 k
    refine a_iload (j := 0) dX9_worksOut_22 rfl ?_
    refine a_iload_n (j := 1) dX9_worksOut_24 rfl rfl ?_
    refine a_icmp_ge (tgt := 157) dX9_worksOut_25 (by decide) (fun c25_1 => ?_) (fun c25_1 => ?_)
    · refine a_aload_n (j := 3) dX9_worksOut_157 rfl rfl (Nat.le_of_ble_eq_true rfl) ?_
      refine b_getp (a := 123) (p := 143) dX9_worksOut_158 fwX9_70 (by decide) rfl (by decide) rfl rfl ?_
      refine a_iconst dX9_worksOut_161 ⟨by decide, by decide⟩ ?_
      refine b_iaload (a := 143) (z := g 0) 0 dX9_worksOut_162 (by decide) rfl rfl (by decide) rfl upR_v (fun r162_2 => ?_)
      exact a_iret dX9_worksOut_163 rfl (by obtain rfl : k = n := (by omega); have h1 := hwf.1; have h2 := skR_one (by omega) hsk; have h3 : wrF fa cd k = g 0 := (by unfold wrF; rw [h2]; rfl); rw [h3] at kQ; exact kQ g)
    · refine a_aload_n (j := 3) dX9_worksOut_28 rfl rfl (Nat.le_of_ble_eq_true rfl) ?_
      refine b_getp (a := 123) (p := 124) dX9_worksOut_29 fwX9_9 (by decide) rfl (by decide) rfl rfl ?_
      refine a_sipush dX9_worksOut_32 ⟨by decide, by decide, by decide⟩ ?_
      refine a_bipush dX9_worksOut_35 ⟨by decide, by decide, by decide⟩ ?_
      refine a_iload_n (j := 4) dX9_worksOut_37 rfl rfl ?_
      refine a_imul (z := (96 * ((t : Nat) : Int))) dX9_worksOut_38 (w_ok (by omega) (by omega)) ?_
      refine a_iadd (z := (201 + (96 * ((t : Nat) : Int)))) dX9_worksOut_39 (w_ok (by omega) (by omega)) ?_
      refine a_iload (j := 0) dX9_worksOut_40 rfl ?_
      refine a_iadd (z := ((201 + (96 * ((t : Nat) : Int))) + ((k : Nat) : Int))) dX9_worksOut_42 (w_ok (by omega) (by omega)) ?_
      refine b_iaload (a := 124) (z := cd k) (201 + 96 * t + k) dX9_worksOut_43 (by decide) rfl (by omega) (by omega) (sp_nil rfl _) ((upR_ne (by decide)).trans (hc k (by omega))) (fun r43_3 => ?_)
      refine a_istore (lv' := [(5, vI (cd k)), (4, vI ((k : Nat) : Int)), (3, vI ((n : Nat) : Int)), (2, vI ((tp : Nat) : Int)), (0, vA 123), (1, vI ((t : Nat) : Int))]) dX9_worksOut_44 (by decide) rfl ?_
      refine a_iload (j := 0) dX9_worksOut_46 rfl ?_
      refine a_if_lt (tgt := 87) dX9_worksOut_48 (by decide) (fun c48_4 => ?_) (fun c48_4 => ?_)
      · refine a_iload (j := 0) dX9_worksOut_87 rfl ?_
        refine a_bipush dX9_worksOut_89 ⟨by decide, by decide, by decide⟩ ?_
        refine a_icmp_ne (tgt := 121) dX9_worksOut_91 (by decide) (fun c91_5 => ?_) (fun c91_5 => ?_)
        · obtain ⟨t2, rfl⟩ : ∃ t2 : Nat, tp = t2 + 2 := ⟨tp - 2, by omega⟩
          obtain ⟨sb, sa, sr, hs⟩ : ∃ sb sa sr, evL fa cd k = sb :: sa :: sr := by
            revert hlen; cases evL fa cd k with
            | nil => intro hlen; simp at hlen
            | cons b r =>
              cases r with
              | nil => intro hlen; simp at hlen
              | cons a r => intro _; exact ⟨b, a, r, rfl⟩
          rw [hs] at hsk hlen
          have hr : sr.length = t2 := by simpa using hlen
          have hg := hsk.1
          have hg2 := hsk.2.1
          rw [List.length_cons, hr] at hg
          rw [hr] at hg2
          refine a_iinc (j := 3) (z' := ((t2 + 1 : Nat) : Int)) (lv' := [(2, vI ((t2 + 1 : Nat) : Int)), (5, vI (cd k)), (4, vI ((k : Nat) : Int)), (3, vI ((n : Nat) : Int)), (0, vA 123), (1, vI ((t : Nat) : Int))]) dX9_worksOut_121 rfl (w_okN (by omega) (by omega) (by omega)) (by decide) rfl ?_
          refine a_aload_n (j := 4) dX9_worksOut_124 rfl rfl (Nat.le_of_ble_eq_true rfl) ?_
          refine b_getp (a := 123) (p := 143) dX9_worksOut_125 fwX9_70 (by decide) rfl (by decide) rfl rfl ?_
          refine a_iload_n (j := 0) dX9_worksOut_128 rfl rfl ?_
          refine a_iconst dX9_worksOut_129 ⟨by decide, by decide⟩ ?_
          refine a_isub (z := (((t2 + 1 : Nat) : Int) - 1)) dX9_worksOut_130 (w_ok (by omega) (by omega)) ?_
          refine a_iload (j := 1) dX9_worksOut_131 rfl ?_
          refine a_aload_n (j := 4) dX9_worksOut_133 rfl rfl (Nat.le_of_ble_eq_true rfl) ?_
          refine b_getp (a := 123) (p := 143) dX9_worksOut_134 fwX9_70 (by decide) rfl (by decide) rfl rfl ?_
          refine a_iload_n (j := 0) dX9_worksOut_137 rfl rfl ?_
          refine a_iconst dX9_worksOut_138 ⟨by decide, by decide⟩ ?_
          refine a_isub (z := (((t2 + 1 : Nat) : Int) - 1)) dX9_worksOut_139 (w_ok (by omega) (by omega)) ?_
          refine b_iaload (a := 143) (z := sa) t2 dX9_worksOut_140 (by decide) rfl (by omega) (by omega) (sp_nil rfl _) (upR_v.trans hg2) (fun r140_6 => ?_)
          refine a_aload_n (j := 4) dX9_worksOut_141 rfl rfl (Nat.le_of_ble_eq_true rfl) ?_
          refine b_getp (a := 123) (p := 143) dX9_worksOut_142 fwX9_70 (by decide) rfl (by decide) rfl rfl ?_
          refine a_iload_n (j := 0) dX9_worksOut_145 rfl rfl ?_
          refine b_iaload (a := 143) (z := sb) (t2 + 1) dX9_worksOut_146 (by decide) rfl rfl (by omega) (sp_nil rfl _) (upR_v.trans hg) (fun r146_7 => ?_)
          refine a_callS (d' := d - 1) (mc' := 0) (ms' := 0) (mc1 := 0) (ms1 := 0) (st := [vI (((t2 + 1 : Nat) : Int) - 1), vA 143]) [vI (cd k), vI sa, vI sb] dX9_worksOut_147 mwX9_two lkX9_293 rfl (Nat.le_of_ble_eq_true rfl) (by omega) rfl rfl (c_X9_two  (by omega)    ?_)
          show Aj γ mX9_worksOut d 0 0 Post 150 [(2, vI ((t2 + 1 : Nat) : Int)), (5, vI (cd k)), (4, vI ((k : Nat) : Int)), (3, vI ((n : Nat) : Int)), (0, vA 123), (1, vI ((t : Nat) : Int))] [vI (twoF (cd k) sa sb), vI (((t2 + 1 : Nat) : Int) - 1), vA 143] (mk (upR h 143 g) τ)
          refine b_iastore (a := 143) t2 dX9_worksOut_150 (by decide) rfl (by omega) (by omega) (sp_nil rfl _) ?_
          refine a_iinc (j := 2) (z' := ((k + 1 : Nat) : Int)) (lv' := [(4, vI ((k + 1 : Nat) : Int)), (2, vI ((t2 + 1 : Nat) : Int)), (5, vI (cd k)), (3, vI ((n : Nat) : Int)), (0, vA 123), (1, vI ((t : Nat) : Int))]) dX9_worksOut_151 rfl (w_okN (by omega) (by omega) (by omega)) (by decide) rfl ?_
          refine a_goto (tgt := 22) dX9_worksOut_154 (by decide) ?_
          rw [up2_R]
          have he : evL fa cd (k + 1) = (twoF (cd k) sa sb) :: sr := (by show evS fa (cd k) _ = _; unfold evS; rw [if_neg (by omega), if_neg (by omega), hs])
          refine a_lv (lv' := [(4, vI ((k + 1 : Nat) : Int)), (3, vI ((n : Nat) : Int)), (2, vI ((t2 + 1 : Nat) : Int)), (0, vA 123), (1, vI ((t : Nat) : Int))]) (by intro q hq; simp only [List.mem_cons, List.not_mem_nil, or_false] at hq ⊢; rcases hq with rfl | rfl | rfl | rfl | rfl <;> simp) (ih (k + 1) _ _ (by omega) (by omega) (by have e2 : dpt cd (k + 1) = dpt cd k - 1 := (by show (if 0 ≤ cd k then dpt cd k + 1 else if cd k = -10 then dpt cd k else dpt cd k - 1) = _; rw [if_neg (by omega), if_neg (by omega)]); omega) (by rw [he]; exact skR_push hr hsk.2.2))
        · obtain ⟨t2, rfl⟩ : ∃ t2 : Nat, tp = t2 + 1 := ⟨tp - 1, by omega⟩
          obtain ⟨sa, sr, hs⟩ : ∃ sa sr, evL fa cd k = sa :: sr := by
            revert hlen; cases evL fa cd k with
            | nil => intro hlen; simp at hlen
            | cons a r => intro _; exact ⟨a, r, rfl⟩
          rw [hs] at hsk hlen
          have hr : sr.length = t2 := by simpa using hlen
          have hg := hsk.1
          rw [hr] at hg
          refine a_aload_n (j := 4) dX9_worksOut_94 rfl rfl (Nat.le_of_ble_eq_true rfl) ?_
          refine b_getp (a := 123) (p := 143) dX9_worksOut_95 fwX9_70 (by decide) rfl (by decide) rfl rfl ?_
          refine a_iload_n (j := 3) dX9_worksOut_98 rfl rfl ?_
          refine a_iconst dX9_worksOut_99 ⟨by decide, by decide⟩ ?_
          refine a_isub (z := (((t2 + 1 : Nat) : Int) - 1)) dX9_worksOut_100 (w_ok (by omega) (by omega)) ?_
          refine a_aload_n (j := 4) dX9_worksOut_101 rfl rfl (Nat.le_of_ble_eq_true rfl) ?_
          refine b_getp (a := 123) (p := 143) dX9_worksOut_102 fwX9_70 (by decide) rfl (by decide) rfl rfl ?_
          refine a_iload_n (j := 3) dX9_worksOut_105 rfl rfl ?_
          refine a_iconst dX9_worksOut_106 ⟨by decide, by decide⟩ ?_
          refine a_isub (z := (((t2 + 1 : Nat) : Int) - 1)) dX9_worksOut_107 (w_ok (by omega) (by omega)) ?_
          refine b_iaload (a := 143) (z := sa) t2 dX9_worksOut_108 (by decide) rfl (by omega) (by omega) (sp_nil rfl _) (upR_v.trans hg) (fun r108_8 => ?_)
          refine a_if_ne (tgt := 116) dX9_worksOut_109 (by decide) (fun c109_9 => ?_) (fun c109_9 => ?_)
          · refine a_iconst dX9_worksOut_116 ⟨by decide, by decide⟩ ?_
            refine b_iastore (a := 143) t2 dX9_worksOut_117 (by decide) rfl (by omega) (by omega) (sp_nil rfl _) ?_
            refine a_goto (tgt := 151) dX9_worksOut_118 (by decide) ?_
            refine a_iinc (j := 1) (z' := ((k + 1 : Nat) : Int)) (lv' := [(4, vI ((k + 1 : Nat) : Int)), (5, vI (cd k)), (3, vI ((n : Nat) : Int)), (2, vI ((t2 + 1 : Nat) : Int)), (0, vA 123), (1, vI ((t : Nat) : Int))]) dX9_worksOut_151 rfl (w_okN (by omega) (by omega) (by omega)) (by decide) rfl ?_
            refine a_goto (tgt := 22) dX9_worksOut_154 (by decide) ?_
            rw [up2_R]
            have he : evL fa cd (k + 1) = 0 :: sr := (by show evS fa (cd k) _ = _; unfold evS; rw [if_neg (by omega), if_pos (by omega), hs]; show (if sa = 0 then (1 : Int) else 0) :: sr = _; first | rw [if_pos (by omega)] | rw [if_neg (by omega)])
            refine a_lv (lv' := [(4, vI ((k + 1 : Nat) : Int)), (3, vI ((n : Nat) : Int)), (2, vI ((t2 + 1 : Nat) : Int)), (0, vA 123), (1, vI ((t : Nat) : Int))]) (by intro q hq; simp only [List.mem_cons, List.not_mem_nil, or_false] at hq ⊢; rcases hq with rfl | rfl | rfl | rfl | rfl <;> simp) (ih (k + 1) _ _ (by omega) (by omega) (by rw [htp]; show dpt cd k = (if 0 ≤ cd k then dpt cd k + 1 else if cd k = -10 then dpt cd k else dpt cd k - 1); rw [if_neg (by omega), if_pos (by omega)]) (by rw [he]; exact skR_push hr hsk.2))
          · refine a_iconst dX9_worksOut_112 ⟨by decide, by decide⟩ ?_
            refine a_goto (tgt := 117) dX9_worksOut_113 (by decide) ?_
            refine b_iastore (a := 143) t2 dX9_worksOut_117 (by decide) rfl (by omega) (by omega) (sp_nil rfl _) ?_
            refine a_goto (tgt := 151) dX9_worksOut_118 (by decide) ?_
            refine a_iinc (j := 1) (z' := ((k + 1 : Nat) : Int)) (lv' := [(4, vI ((k + 1 : Nat) : Int)), (5, vI (cd k)), (3, vI ((n : Nat) : Int)), (2, vI ((t2 + 1 : Nat) : Int)), (0, vA 123), (1, vI ((t : Nat) : Int))]) dX9_worksOut_151 rfl (w_okN (by omega) (by omega) (by omega)) (by decide) rfl ?_
            refine a_goto (tgt := 22) dX9_worksOut_154 (by decide) ?_
            rw [up2_R]
            have he : evL fa cd (k + 1) = 1 :: sr := (by show evS fa (cd k) _ = _; unfold evS; rw [if_neg (by omega), if_pos (by omega), hs]; show (if sa = 0 then (1 : Int) else 0) :: sr = _; first | rw [if_pos (by omega)] | rw [if_neg (by omega)])
            refine a_lv (lv' := [(4, vI ((k + 1 : Nat) : Int)), (3, vI ((n : Nat) : Int)), (2, vI ((t2 + 1 : Nat) : Int)), (0, vA 123), (1, vI ((t : Nat) : Int))]) (by intro q hq; simp only [List.mem_cons, List.not_mem_nil, or_false] at hq ⊢; rcases hq with rfl | rfl | rfl | rfl | rfl <;> simp) (ih (k + 1) _ _ (by omega) (by omega) (by rw [htp]; show dpt cd k = (if 0 ≤ cd k then dpt cd k + 1 else if cd k = -10 then dpt cd k else dpt cd k - 1); rw [if_neg (by omega), if_pos (by omega)]) (by rw [he]; exact skR_push hr hsk.2))
      · refine a_aload_n (j := 4) dX9_worksOut_51 rfl rfl (Nat.le_of_ble_eq_true rfl) ?_
        refine b_getp (a := 123) (p := 143) dX9_worksOut_52 fwX9_70 (by decide) rfl (by decide) rfl rfl ?_
        refine a_iload_n (j := 3) dX9_worksOut_55 rfl rfl ?_
        refine a_iload (j := 0) dX9_worksOut_56 rfl ?_
        refine a_sipush dX9_worksOut_58 ⟨by decide, by decide, by decide⟩ ?_
        refine a_icmp_ge (tgt := 69) dX9_worksOut_61 (by decide) (fun c61_10 => ?_) (fun c61_10 => ?_)
        · refine a_aload_n (j := 4) dX9_worksOut_69 rfl rfl (Nat.le_of_ble_eq_true rfl) ?_
          refine b_getp (a := 123) (p := 144) dX9_worksOut_70 fwX9_73 (by decide) rfl (by decide) rfl rfl ?_
          refine a_iload (j := 0) dX9_worksOut_73 rfl ?_
          refine a_sipush dX9_worksOut_75 ⟨by decide, by decide, by decide⟩ ?_
          refine a_isub (z := ((cd k) - 10000)) dX9_worksOut_78 (w_ok (by omega) (by omega)) ?_
          refine b_iaload (a := 144) (z := fa (Int.toNat (cd k - 10000))) (Int.toNat (cd k - 10000)) dX9_worksOut_79 (by decide) rfl (by omega) (by omega) (sp_nil rfl _) ((upR_ne (by decide)).trans (hf _ (by omega))) (fun r79_11 => ?_)
          refine b_iastore (a := 143) tp dX9_worksOut_80 (by decide) rfl rfl (by omega) (sp_nil rfl _) ?_
          refine a_iinc (j := 3) (z' := ((tp + 1 : Nat) : Int)) (lv' := [(2, vI ((tp + 1 : Nat) : Int)), (5, vI (cd k)), (4, vI ((k : Nat) : Int)), (3, vI ((n : Nat) : Int)), (0, vA 123), (1, vI ((t : Nat) : Int))]) dX9_worksOut_81 rfl (w_okN (by omega) (by omega) (by omega)) (by decide) rfl ?_
          refine a_goto (tgt := 151) dX9_worksOut_84 (by decide) ?_
          refine a_iinc (j := 2) (z' := ((k + 1 : Nat) : Int)) (lv' := [(4, vI ((k + 1 : Nat) : Int)), (2, vI ((tp + 1 : Nat) : Int)), (5, vI (cd k)), (3, vI ((n : Nat) : Int)), (0, vA 123), (1, vI ((t : Nat) : Int))]) dX9_worksOut_151 rfl (w_okN (by omega) (by omega) (by omega)) (by decide) rfl ?_
          refine a_goto (tgt := 22) dX9_worksOut_154 (by decide) ?_
          rw [up2_R]
          have he : evL fa cd (k + 1) = (fa (Int.toNat (cd k - 10000))) :: evL fa cd k := (by show evS fa (cd k) _ = _; unfold evS; rw [if_pos (by omega)]; first | rw [if_pos (by omega)] | rw [if_neg (by omega)])
          refine a_lv (lv' := [(4, vI ((k + 1 : Nat) : Int)), (3, vI ((n : Nat) : Int)), (2, vI ((tp + 1 : Nat) : Int)), (0, vA 123), (1, vI ((t : Nat) : Int))]) (by intro q hq; simp only [List.mem_cons, List.not_mem_nil, or_false] at hq ⊢; rcases hq with rfl | rfl | rfl | rfl | rfl <;> simp) (ih (k + 1) _ _ (by omega) (by omega) (by rw [htp]; show dpt cd k + 1 = (if 0 ≤ cd k then dpt cd k + 1 else if cd k = -10 then dpt cd k else dpt cd k - 1); rw [if_pos (by omega)]) (by rw [he]; exact skR_push hlen hsk))
        · refine a_iload (j := 0) dX9_worksOut_64 rfl ?_
          refine a_goto (tgt := 80) dX9_worksOut_66 (by decide) ?_
          refine b_iastore (a := 143) tp dX9_worksOut_80 (by decide) rfl rfl (by omega) (sp_nil rfl _) ?_
          refine a_iinc (j := 3) (z' := ((tp + 1 : Nat) : Int)) (lv' := [(2, vI ((tp + 1 : Nat) : Int)), (5, vI (cd k)), (4, vI ((k : Nat) : Int)), (3, vI ((n : Nat) : Int)), (0, vA 123), (1, vI ((t : Nat) : Int))]) dX9_worksOut_81 rfl (w_okN (by omega) (by omega) (by omega)) (by decide) rfl ?_
          refine a_goto (tgt := 151) dX9_worksOut_84 (by decide) ?_
          refine a_iinc (j := 2) (z' := ((k + 1 : Nat) : Int)) (lv' := [(4, vI ((k + 1 : Nat) : Int)), (2, vI ((tp + 1 : Nat) : Int)), (5, vI (cd k)), (3, vI ((n : Nat) : Int)), (0, vA 123), (1, vI ((t : Nat) : Int))]) dX9_worksOut_151 rfl (w_okN (by omega) (by omega) (by omega)) (by decide) rfl ?_
          refine a_goto (tgt := 22) dX9_worksOut_154 (by decide) ?_
          rw [up2_R]
          have he : evL fa cd (k + 1) = (cd k) :: evL fa cd k := (by show evS fa (cd k) _ = _; unfold evS; rw [if_pos (by omega)]; first | rw [if_pos (by omega)] | rw [if_neg (by omega)])
          refine a_lv (lv' := [(4, vI ((k + 1 : Nat) : Int)), (3, vI ((n : Nat) : Int)), (2, vI ((tp + 1 : Nat) : Int)), (0, vA 123), (1, vI ((t : Nat) : Int))]) (by intro q hq; simp only [List.mem_cons, List.not_mem_nil, or_false] at hq ⊢; rcases hq with rfl | rfl | rfl | rfl | rfl <;> simp) (ih (k + 1) _ _ (by omega) (by omega) (by rw [htp]; show dpt cd k + 1 = (if 0 ≤ cd k then dpt cd k + 1 else if cd k = -10 then dpt cd k else dpt cd k - 1); rw [if_pos (by omega)]) (by rw [he]; exact skR_push hlen hsk))
theorem c_X9_worksOut {γ : GT} {d : Nat} {t n : Nat} {v : Int} {fa cd : Nat → Int} {h : Nat → Nat → Int} {τ : List AC} {Post : Option AV → List AC → Prop} (hd : 1 ≤ d) (ht : t ≤ 13) (e : h 124 (173 + 2 * t) = v) (hv : 0 ≤ v ∧ v ≤ 2999) (hn : v % 1000 = (n : Int)) (hn6 : n ≤ 96) (hwf : wfC cd n) (hc : ∀ k, k < n → h 124 (201 + 96 * t + k) = cd k) (hf : ∀ k, k < 3 → h 144 k = fa k) (kQ : ∀ g : Nat → Int, Post (some (vI (wrF fa cd n))) (mk (upR h 143 g) τ)) : Cj γ mX9_worksOut d 0 0 [vA 123, vI ((t : Nat) : Int)] (mk h τ) Post := by
  refine c_of (by decide) (Nat.le_of_ble_eq_true rfl) ?_
  show Aj γ mX9_worksOut d 0 0 Post 0 [(0, vA 123), (1, vI ((t : Nat) : Int))] [] (mk h τ)
  refine a_iconst dX9_worksOut_0 ⟨by decide, by decide⟩ ?_
  refine a_istore_n (lv' := [(2, vI 0), (0, vA 123), (1, vI ((t : Nat) : Int))]) dX9_worksOut_1 rfl (by decide) rfl ?_
  refine a_aload_n (j := 1) dX9_worksOut_2 rfl rfl (Nat.le_of_ble_eq_true rfl) ?_
  refine b_getp (a := 123) (p := 124) dX9_worksOut_3 fwX9_9 (by decide) rfl (by decide) rfl rfl ?_
  refine a_sipush dX9_worksOut_6 ⟨by decide, by decide, by decide⟩ ?_
  refine a_iconst dX9_worksOut_9 ⟨by decide, by decide⟩ ?_
  refine a_iload_n (j := 2) dX9_worksOut_10 rfl rfl ?_
  refine a_imul (z := (2 * ((t : Nat) : Int))) dX9_worksOut_11 (w_ok (by omega) (by omega)) ?_
  refine a_iadd (z := (173 + (2 * ((t : Nat) : Int)))) dX9_worksOut_12 (w_ok (by omega) (by omega)) ?_
  refine b_iaload (a := 124) (z := v) (173 + 2 * t) dX9_worksOut_13 (by decide) rfl (by omega) (by omega) (sp_nil rfl _) e (fun r13_1 => ?_)
  refine a_sipush dX9_worksOut_14 ⟨by decide, by decide, by decide⟩ ?_
  refine a_irem (z := (v % 1000)) dX9_worksOut_17 (by omega) (w_remN (by omega) (by omega) (by omega)) ?_
  refine a_istore_n (lv' := [(3, vI (v % 1000)), (2, vI 0), (0, vA 123), (1, vI ((t : Nat) : Int))]) dX9_worksOut_18 rfl (by decide) rfl ?_
  refine a_iconst dX9_worksOut_19 ⟨by decide, by decide⟩ ?_
  refine a_istore (lv' := [(4, vI 0), (3, vI (v % 1000)), (2, vI 0), (0, vA 123), (1, vI ((t : Nat) : Int))]) dX9_worksOut_20 (by decide) rfl ?_
  rw [hn]
  have hl := l_works (γ := γ) (d := d) (t := t) (n := n) (τ := τ) (Post := Post) (h := h) hd ht hn6 hwf hc hf kQ (n + 1) 0 0 (h 143) (by omega) (by omega) rfl trivial
  rw [upR_id rfl] at hl
  exact a_lv (lv' := [(4, vI ((0 : Nat) : Int)), (3, vI ((n : Nat) : Int)), (2, vI ((0 : Nat) : Int)), (0, vA 123), (1, vI ((t : Nat) : Int))]) (by intro q hq; simp only [List.mem_cons, List.not_mem_nil, or_false] at hq ⊢; rcases hq with rfl | rfl | rfl | rfl | rfl <;> simp) hl
