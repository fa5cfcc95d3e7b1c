/-- the cells behind both constructors -/
def stZ : List AC := blkX8 ++ blkX9
def hF0 (c k : Nat) : Int := (stZ.getD c (0, 0, fun _ => 0)).2.2 k
set_option maxRecDepth 100000 in
theorem st_len : stZ.length = 154 := by decide +kernel
set_option maxRecDepth 100000 in
theorem st_kd : ∀ i, i < 154 → (stZ.getD i (0, 0, fun _ => 0)).1 = (kd i).1 ∧ (stZ.getD i (0, 0, fun _ => 0)).2.1 = (kd i).2 := by decide +kernel
set_option maxRecDepth 100000 in
theorem st_sp : ∀ i, i < 154 → ∀ q, q ∈ spL.getD i [] → (stZ.getD i (0, 0, fun _ => 0)).2.2 q.1 = ((q.2 : Nat) : Int) := by decide +kernel
theorem lk_mem {k p : Nat} : ∀ {l : List (Nat × Nat)}, l.lookup k = some p → (k, p) ∈ l
  | [], h => nomatch h
  | (a, b) :: l, h => by
    rw [List.lookup_cons] at h
    by_cases c : k = a
    · subst c
      rw [beq_self_eq_true] at h
      have : b = p := Option.some.inj h
      subst this
      exact List.mem_cons_self
    · have e : (k == a) = false := by simp [c]
      rw [e] at h
      exact List.mem_cons_of_mem _ (lk_mem h)
theorem st_mk : stZ = mk hF0 [] := by
  apply List.ext_getElem?
  intro i
  by_cases hi : i < 154
  · rw [mk_get hi]
    have e : stZ[i]? = some (stZ.getD i (0, 0, fun _ => 0)) := by
      rw [List.getD_eq_getElem?_getD, List.getElem?_eq_getElem (by rw [st_len]; exact hi)]; rfl
    rw [e]
    have k1 := st_kd i hi
    have k2 := st_sp i hi
    congr 1
    unfold lay
    refine Prod.ext k1.1 (Prod.ext k1.2 ?_)
    funext k
    show (stZ.getD i (0, 0, fun _ => 0)).2.2 k = match sp i k with | some p => (p : Int) | none => hF0 i k
    cases hs : sp i k with
    | none => rfl
    | some p => exact k2 (k, p) (lk_mem hs)
  · rw [List.getElem?_eq_none (by rw [st_len]; omega), List.getElem?_eq_none (by rw [mk_len]; simp; omega)]
set_option maxRecDepth 100000 in
theorem f0_sc : scOK (hF0 124) := by unfold scOK; decide +kernel
set_option maxRecDepth 100000 in
theorem f0_st : stOK (hF0 124) := by unfold stOK; decide +kernel
set_option maxRecDepth 100000 in
theorem f0_n : hF0 124 4 = 0 ∧ hF0 124 5 = 0 ∧ hF0 124 6 = 0 ∧ hF0 124 7 = 0 ∧ hF0 124 8 = 0 := by decide +kernel
set_option maxRecDepth 100000 in
theorem f0_tx : ∀ t : Nat, t < 14 → 0 ≤ hF0 124 (173 + 2 * t) ∧ hF0 124 (173 + 2 * t) ≤ 2999 := by decide +kernel
set_option maxRecDepth 100000 in
theorem f0_scR : scR hF0 1 (hF0 124) := by unfold scR; decide +kernel
set_option maxRecDepth 100000 in
theorem f0_v : hF0 0 2 = 0 ∧ hF0 123 3 = 0 ∧ hF0 63 0 = -1 ∧ hF0 78 2 = -1 ∧ hF0 80 2 = -1 ∧ hF0 82 2 = -1 ∧ hF0 1 0 = 0 ∧ hF0 32 0 = 0 ∧ hF0 0 3 = 0 ∧ hF0 123 4 = 0 ∧ hF0 84 1 = 0 ∧ hF0 123 17 = 0 := by decide +kernel
set_option maxRecDepth 100000 in
theorem f0_cs : CCs hF0 := by unfold CCs; decide +kernel
set_option maxRecDepth 100000 in
theorem f0_dl : dlB hF0 := by unfold dlB; decide +kernel
set_option maxRecDepth 100000 in
theorem f0_sh : SHE hF0 := by unfold SHE; decide +kernel
set_option maxRecDepth 100000 in
theorem f0_sl : SLE hF0 := by unfold SLE; decide +kernel
set_option maxRecDepth 100000 in
theorem f0_cn : CNE hF0 := by unfold CNE; decide +kernel
set_option maxRecDepth 100000 in
theorem f0_w : hF0 0 12 = hF0 123 44 ∧ (0 ≤ hF0 123 44 ∧ hF0 123 44 ≤ 60) := by decide +kernel
set_option maxRecDepth 100000 in
theorem f0_e : hF0 89 = hF0 153 := rfl
theorem f0_IV : IVp 0 hF0 [] (hF0 124) (hF0 125) := by
  obtain ⟨n4, n5, n6, n7, n8⟩ := f0_n
  obtain ⟨v1, v2, v3, v4, v5, v6, v7, v8, v9, v10, v11, v12⟩ := f0_v
  refine ⟨rfl, rfl, ⟨⟨f0_sc, f0_st, fun t ht => ?_, ⟨by rw [n6]; decide, f0_tx, fun t ht => ?_⟩⟩, by rw [n7]; decide, fun k hk => ?_, by rw [n8]; decide, fun k hk => ?_⟩, ⟨f0_scR, fun k hk => ?_, fun k hk => ?_, fun k hk => ?_, fun k hk => ?_, fun k hk => ?_⟩, by rw [v1, v2]; decide, fun q => ?_, ⟨⟨fun q => ?_, fun q => ?_, fun q => ?_, fun q => ?_⟩, fun q => ?_, f0_cs, fun q => ?_, ⟨by omega, by omega⟩, ⟨by omega, by omega⟩, by omega, by omega, by omega, by omega⟩, ⟨Or.inl v10, fun q => ?_, f0_dl⟩, by rw [v9]; decide, ⟨⟨by rw [v11, v12], by rw [v12]; decide, fun k hk => ?_⟩, f0_sh, f0_sl, ⟨f0_w.1, f0_w.2, f0_e⟩, f0_cn⟩⟩ <;> omega
