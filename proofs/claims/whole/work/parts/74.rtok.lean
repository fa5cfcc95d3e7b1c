/-- the reference's word for a token -/
def rtk (t : Tk) : Int := if t.1 = 2 ∧ 4 < t.2.2 - t.2.1 then 4 else t.1
/-- the reference stands at token t -/
def RTk (B : Nat → Int) (n : Nat) (h : Nat → Nat → Int) (t : Tk) : Prop := h 123 17 = ((n : Nat) : Int) ∧ (∀ k, k < n → h 137 k = B k) ∧ h 123 18 = ((t.2.2 : Nat) : Int) ∧ h 123 19 = ((t.2.1 : Nat) : Int) ∧ h 123 20 = rtk t ∧ ((t.1 = 1 ∨ t.1 = 3) → h 123 21 = B t.2.1) ∧ (t.1 = 2 → t.2.2 - t.2.1 ≤ 4 → h 123 21 = numF B t.2.1 (t.2.2 - t.2.1)) ∧ ((t.1 = 1 ∨ t.1 = 2) → h 123 22 = ((t.2.2 : Nat) : Int)) ∧ (t.1 = 3 → h 123 22 < ((t.2.2 : Nat) : Int)) ∧ tkV B n t
theorem rtk_ne {q : Int} {s e : Nat} (h : ¬ q = 2) : rtk (q, s, e) = q := if_neg (fun x => h x.1)
theorem rtk_3 (t : Tk) : rtk t = 3 ↔ t.1 = 3 := by
  unfold rtk
  by_cases h : t.1 = 2 ∧ 4 < t.2.2 - t.2.1
  · rw [if_pos h]; constructor <;> intro q <;> omega
  · rw [if_neg h]
theorem rtk_0 (t : Tk) : rtk t = 0 ↔ t.1 = 0 := by
  unfold rtk
  by_cases h : t.1 = 2 ∧ 4 < t.2.2 - t.2.1
  · rw [if_pos h]; constructor <;> intro q <;> omega
  · rw [if_neg h]
theorem rtk_1 (t : Tk) : rtk t = 1 ↔ t.1 = 1 := by
  unfold rtk
  by_cases h : t.1 = 2 ∧ 4 < t.2.2 - t.2.1
  · rw [if_pos h]; constructor <;> intro q <;> omega
  · rw [if_neg h]
theorem rtk_2 (t : Tk) : rtk t = 2 ↔ (t.1 = 2 ∧ t.2.2 - t.2.1 ≤ 4) := by
  unfold rtk
  by_cases h : t.1 = 2 ∧ 4 < t.2.2 - t.2.1
  · rw [if_pos h]; constructor
    · intro q; omega
    · intro q; have := q.2; omega
  · rw [if_neg h]; constructor
    · intro q; exact ⟨q, by omega⟩
    · intro q; exact q.1
theorem soF_1 {g : Int} (h : soF g = 1) : 97 ≤ g ∧ g ≤ 122 := by
  unfold soF at h
  split at h
  · assumption
  · split at h <;> omega
theorem soF_of1 {g : Int} (h : 97 ≤ g ∧ g ≤ 122) : soF g = 1 := if_pos h
theorem soF_of2 {g : Int} (h : 48 ≤ g ∧ g ≤ 57) : soF g = 2 := by
  unfold soF
  rw [if_neg (by omega), if_pos h]
theorem c_isL {γ : GT} {d : Nat} {B : Nat → Int} {n p : Nat} {h : Nat → Nat → Int} {τ : List AC} {Post : Option AV → List AC → Prop} (hn : h 123 17 = ((n : Nat) : Int)) (hm : n ≤ 96) (hB : ∀ k, k < n → h 137 k = B k) (kT : p < n → soF (B p) = 1 → Post (some (vI 1)) (mk h τ)) (kF : ¬ (p < n ∧ soF (B p) = 1) → Post (some (vI 0)) (mk h τ)) : Cj γ mX9_isLetter d 0 0 [vA 123, vI ((p : Nat) : Int)] (mk h τ) Post := by
  refine c_X9_isLetter (Nat.zero_le _) hn rfl ⟨by omega, by omega, by omega⟩ (fun q => ?_) (fun q => ?_)
  · rw [Int.toNat_natCast] at q
    have hp : p < n := by omega
    rw [hB p hp] at q
    exact kT hp (soF_of1 q.2)
  · rw [Int.toNat_natCast] at q
    refine kF (fun w => q ?_)
    rw [hB p w.1]
    exact ⟨by omega, soF_1 w.2⟩
theorem c_isF {γ : GT} {d : Nat} {B : Nat → Int} {n p : Nat} {h : Nat → Nat → Int} {τ : List AC} {Post : Option AV → List AC → Prop} (hn : h 123 17 = ((n : Nat) : Int)) (hm : n ≤ 96) (hB : ∀ k, k < n → h 137 k = B k) (kT : p < n → soF (B p) = 2 → Post (some (vI 1)) (mk h τ)) (kF : ¬ (p < n ∧ soF (B p) = 2) → Post (some (vI 0)) (mk h τ)) : Cj γ mX9_isFigure d 0 0 [vA 123, vI ((p : Nat) : Int)] (mk h τ) Post := by
  refine c_X9_isFigure (Nat.zero_le _) hn rfl ⟨by omega, by omega, by omega⟩ (fun q => ?_) (fun q => ?_)
  · rw [Int.toNat_natCast] at q
    have hp : p < n := by omega
    rw [hB p hp] at q
    exact kT hp (soF_of2 q.2)
  · rw [Int.toNat_natCast] at q
    refine kF (fun w => q ?_)
    rw [hB p w.1]
    exact ⟨by omega, soF_2 w.2⟩
set_option maxHeartbeats 8000000 in
theorem l_rS {γ : GT} {d : Nat} {B : Nat → Int} {n S : Nat} {h : Nat → Nat → Int} {τ : List AC} {Post : Option AV → List AC → Prop} (hd : 2 ≤ d) (hn : h 123 17 = ((n : Nat) : Int)) (hm : n ≤ 96) (hB : ∀ k, k < n → h 137 k = B k) (kE : ∀ h', Fr [123] h h' → h' 123 18 = ((S : Nat) : Int) → (∀ k, k ≠ 18 → h' 123 k = h 123 k) → Aj γ mX9_go d 0 0 Post 38 [(0, vA 123)] [] (mk h' τ)) :
    ∀ (f i : Nat) (h1 : Nat → Nat → Int), i ≤ n → n < i + f → Fr [123] h h1 → (h1 123 18 = ((i : Nat) : Int)) → (∀ k, k ≠ 18 → h1 123 k = h 123 k) → (skp B (n - i) i = S) → Aj γ mX9_go d 0 0 Post 0 [(0, vA 123)] [] (mk h1 τ) := by
  intro f
  induction f with
  | zero => intro i h1  h1_ h2_; omega
  | succ f ih =>
    intro i h1  h1_ h2_ hF ia ib iv
    refine a_aload_n (j := 0) dX9_go_0 rfl rfl (Nat.le_of_ble_eq_true rfl) ?_
    refine b_get (a := 123) (z := ((i : Nat) : Int)) (t := 0) dX9_go_1 fwX9_232 (by decide) rfl (by decide) rfl rfl ia ?_
    refine a_aload_n (j := 0) dX9_go_4 rfl rfl (Nat.le_of_ble_eq_true rfl) ?_
    refine b_get (a := 123) (z := ((n : Nat) : Int)) (t := 0) dX9_go_5 fwX9_229 (by decide) rfl (by decide) rfl rfl ((ib 17 (by decide)).trans hn) ?_
    refine a_icmp_ge (tgt := 38) dX9_go_8 (by decide) (fun c8_1 => ?_) (fun c8_1 => ?_)
    · have hx : skp B (n - i) i = i := by first | exact skp_e (by omega) | exact skp_n (by omega)
      exact kE _ hF (ia.trans (by rw [← iv, hx])) ib
    · refine a_aload_n (j := 0) dX9_go_11 rfl rfl (Nat.le_of_ble_eq_true rfl) ?_
      refine b_getp (a := 123) (p := 137) dX9_go_12 fwX9_50 (by decide) rfl (by decide) rfl rfl ?_
      refine a_aload_n (j := 0) dX9_go_15 rfl rfl (Nat.le_of_ble_eq_true rfl) ?_
      refine b_get (a := 123) (z := ((i : Nat) : Int)) (t := 0) dX9_go_16 fwX9_232 (by decide) rfl (by decide) rfl rfl ia ?_
      refine b_iaload (a := 137) (z := (B i)) i dX9_go_19 (by decide) rfl rfl (by omega) (sp_nil rfl _) ((Fr_v hF (by decide)).trans (hB i (by omega))) (fun r19_2 => ?_)
      refine a_bipush dX9_go_20 ⟨by decide, by decide, by decide⟩ ?_
      refine a_icmp_ne (tgt := 38) dX9_go_22 (by decide) (fun c22_3 => ?_) (fun c22_3 => ?_)
      · have hx : skp B (n - i) i = i := by first | exact skp_e (by omega) | exact skp_n (by omega)
        exact kE _ hF (ia.trans (by rw [← iv, hx])) ib
      · refine a_aload_n (j := 0) dX9_go_25 rfl rfl (Nat.le_of_ble_eq_true rfl) ?_
        refine a_dup dX9_go_26 (fun h => nomatch h) ?_
        refine b_get (a := 123) (z := ((i : Nat) : Int)) (t := 0) dX9_go_27 fwX9_232 (by decide) rfl (by decide) rfl rfl ia ?_
        refine a_iconst dX9_go_30 ⟨by decide, by decide⟩ ?_
        refine a_iadd (z := (((i : Nat) : Int) + 1)) dX9_go_31 (w_ok (by omega) (by omega)) ?_
        refine b_put (a := 123) (v := vI (((i : Nat) : Int) + 1)) dX9_go_32 pwX9_232 (fun h => nomatch h) (by decide) rfl (by decide) rfl rfl (fit_int _) ?_
        show Aj γ mX9_go d 0 0 Post 35 [(0, vA 123)] [] (mk (up2 h1 123 18 (((i : Nat) : Int) + 1)) τ)
        refine a_goto (tgt := 0) dX9_go_35 (by decide) ?_
        refine a_lv (lv' := [(0, vA 123)]) (by intro q hq; simp only [List.mem_cons, List.not_mem_nil, or_false] at hq ⊢; rcases hq with rfl <;> simp) (ih (i + 1) (up2 h1 123 18 (((i : Nat) : Int) + 1))  (by omega) (by omega) (Fr_u (by decide) (Fr_m (by decide) hF)) (up2_at.trans (by omega)) (fun k hk => (up2_ne (by omega)).trans (ib k hk)) ((skp_s (by omega) (by omega)).symm.trans iv))
set_option maxHeartbeats 8000000 in
theorem l_rL {γ : GT} {d : Nat} {B : Nat → Int} {n S : Nat} {c : Int} {h : Nat → Nat → Int} {τ : List AC} {Post : Option AV → List AC → Prop} (hd : 2 ≤ d) (hn : h 123 17 = ((n : Nat) : Int)) (hm : n ≤ 96) (hB : ∀ k, k < n → h 137 k = B k) (kE : ∀ h', Fr [123] h h' → h' 123 18 = ((S : Nat) : Int) → (∀ k, k ≠ 18 → h' 123 k = h 123 k) → Aj γ mX9_go d 0 0 Post 117 [(1, vI c), (0, vA 123)] [] (mk h' τ)) :
    ∀ (f i : Nat) (h1 : Nat → Nat → Int), i ≤ n → n < i + f → Fr [123] h h1 → (h1 123 18 = ((i : Nat) : Int)) → (∀ k, k ≠ 18 → h1 123 k = h 123 k) → (rnn B 1 (n - i) i = S) → Aj γ mX9_go d 0 0 Post 93 [(1, vI c), (0, vA 123)] [] (mk h1 τ) := by
  intro f
  induction f with
  | zero => intro i h1  h1_ h2_; omega
  | succ f ih =>
    intro i h1  h1_ h2_ hF ia ib iv
    refine a_aload_n (j := 1) dX9_go_93 rfl rfl (Nat.le_of_ble_eq_true rfl) ?_
    refine a_aload_n (j := 1) dX9_go_94 rfl rfl (Nat.le_of_ble_eq_true rfl) ?_
    refine b_get (a := 123) (z := ((i : Nat) : Int)) (t := 0) dX9_go_95 fwX9_232 (by decide) rfl (by decide) rfl rfl ia ?_
    refine b_callV (d' := d - 1) (mc' := 0) (ms' := 0) (mc1 := 0) (ms1 := 0) (st := []) (b := 123) [vI ((i : Nat) : Int)] dX9_go_98 mwX9_isLetter lkX9_244 (by decide) rfl rc_X9 rfl (Nat.le_of_ble_eq_true rfl) (by omega) rfl rfl (c_isL (B := B) (n := n) (p := i) ((ib 17 (by decide)).trans hn) hm (by rw [((hF 137 (by decide)).trans rfl)]; exact hB) (fun l1 m1 => ?_) (fun l1 => ?_))
    · show Aj γ mX9_go d 0 0 Post 101 [(1, vI c), (0, vA 123)] [vI 1] (mk h1 τ)
      refine a_if_eq (tgt := 117) dX9_go_101 (by decide) (fun c => absurd c (by decide)) (fun _ => ?_)
      refine a_aload_n (j := 1) dX9_go_104 rfl rfl (Nat.le_of_ble_eq_true rfl) ?_
      refine a_dup dX9_go_105 (fun h => nomatch h) ?_
      refine b_get (a := 123) (z := ((i : Nat) : Int)) (t := 0) dX9_go_106 fwX9_232 (by decide) rfl (by decide) rfl rfl ia ?_
      refine a_iconst dX9_go_109 ⟨by decide, by decide⟩ ?_
      refine a_iadd (z := (((i : Nat) : Int) + 1)) dX9_go_110 (w_ok (by omega) (by omega)) ?_
      refine b_put (a := 123) (v := vI (((i : Nat) : Int) + 1)) dX9_go_111 pwX9_232 (fun h => nomatch h) (by decide) rfl (by decide) rfl rfl (fit_int _) ?_
      show Aj γ mX9_go d 0 0 Post 114 [(1, vI c), (0, vA 123)] [] (mk (up2 h1 123 18 (((i : Nat) : Int) + 1)) τ)
      refine a_goto (tgt := 93) dX9_go_114 (by decide) ?_
      refine a_lv (lv' := [(1, vI c), (0, vA 123)]) (by intro q hq; simp only [List.mem_cons, List.not_mem_nil, or_false] at hq ⊢; rcases hq with rfl | rfl <;> simp) (ih (i + 1) (up2 h1 123 18 (((i : Nat) : Int) + 1))  (by omega) (by omega) (Fr_u (by decide) (Fr_m (by decide) hF)) (up2_at.trans (by omega)) (fun k hk => (up2_ne (by omega)).trans (ib k hk)) ((rnn_s (by assumption) (by assumption)).symm.trans iv))
    · show Aj γ mX9_go d 0 0 Post 101 [(1, vI c), (0, vA 123)] [vI 0] (mk h1 τ)
      refine a_if_eq (tgt := 117) dX9_go_101 (by decide) (fun _ => ?_) (fun c => absurd c (by decide))
      have hx : rnn B 1 (n - i) i = i := by
        by_cases hin : i < n
        · exact rnn_n (fun e => (by assumption : ¬ (i < n ∧ soF (B i) = 1)) ⟨hin, e⟩)
        · exact rnn_e (by omega)
      exact kE _ hF (ia.trans (by rw [← iv, hx])) ib
set_option maxHeartbeats 8000000 in
theorem l_rD {γ : GT} {d : Nat} {B : Nat → Int} {n s S : Nat} {c : Int} {h : Nat → Nat → Int} {τ : List AC} {Post : Option AV → List AC → Prop} (hd : 2 ≤ d) (hn : h 123 17 = ((n : Nat) : Int)) (hm : n ≤ 96) (hB : ∀ k, k < n → h 137 k = B k) (hBr : ∀ k, 0 ≤ B k ∧ B k ≤ 255) (hs : h 123 19 = ((s : Nat) : Int)) (kE : ∀ h', Fr [123] h h' → h' 123 18 = ((S : Nat) : Int) → (S - s ≤ 4 → h' 123 21 = numF B s (S - s)) → (∀ k, k ≠ 18 → k ≠ 21 → h' 123 k = h 123 k) → (∀ j, s ≤ j → j < S → 48 ≤ B j ∧ B j ≤ 57) → Aj γ mX9_go d 0 0 Post 238 [(1, vI c), (0, vA 123)] [] (mk h' τ)) :
    ∀ (f i : Nat) (v : Int) (h1 : Nat → Nat → Int), s ≤ i → i ≤ n → n < i + f → Fr [123] h h1 → h1 123 18 = ((i : Nat) : Int) → h1 123 21 = v → (i - s ≤ 4 → v = numF B s (i - s)) → (0 ≤ v ∧ v ≤ 99999) → (∀ k, k ≠ 18 → k ≠ 21 → h1 123 k = h 123 k) → (∀ j, s ≤ j → j < i → 48 ≤ B j ∧ B j ≤ 57) → rnn B 2 (n - i) i = S → Aj γ mX9_go d 0 0 Post 170 [(1, vI c), (0, vA 123)] [] (mk h1 τ) := by
  intro f
  induction f with
  | zero => intro i v h1 h0_ h1_ h2_; omega
  | succ f ih =>
    intro i v h1 h0_ h1_ h2_ hF ia iw iq ivr ib idg iv
    have hbr := hBr i
    have hv4 : i - s ≤ 4 → 0 ≤ v ∧ v ≤ 9999 := fun q => by
      rw [iq q]
      exact num_4 q (fun j hj => idg (s + j) (by omega) (by omega))
    refine a_aload_n (j := 1) dX9_go_170 rfl rfl (Nat.le_of_ble_eq_true rfl) ?_
    refine a_aload_n (j := 1) dX9_go_171 rfl rfl (Nat.le_of_ble_eq_true rfl) ?_
    refine b_get (a := 123) (z := ((i : Nat) : Int)) (t := 0) dX9_go_172 fwX9_232 (by decide) rfl (by decide) rfl rfl ia ?_
    refine b_callV (d' := d - 1) (mc' := 0) (ms' := 0) (mc1 := 0) (ms1 := 0) (st := []) (b := 123) [vI ((i : Nat) : Int)] dX9_go_175 mwX9_isFigure lkX9_250 (by decide) rfl rc_X9 rfl (Nat.le_of_ble_eq_true rfl) (by omega) rfl rfl (c_isF (B := B) (n := n) (p := i) ((ib 17 (by decide) (by decide)).trans hn) hm (by rw [((hF 137 (by decide)).trans rfl)]; exact hB) (fun l1 m1 => ?_) (fun l1 => ?_))
    · show Aj γ mX9_go d 0 0 Post 178 [(1, vI c), (0, vA 123)] [vI 1] (mk h1 τ)
      refine a_if_eq (tgt := 238) dX9_go_178 (by decide) (fun c => absurd c (by decide)) (fun _ => ?_)
      refine a_aload_n (j := 1) dX9_go_181 rfl rfl (Nat.le_of_ble_eq_true rfl) ?_
      refine a_aload_n (j := 1) dX9_go_182 rfl rfl (Nat.le_of_ble_eq_true rfl) ?_
      refine b_get (a := 123) (z := ((i : Nat) : Int)) (t := 0) dX9_go_183 fwX9_232 (by decide) rfl (by decide) rfl rfl ia ?_
      refine a_aload_n (j := 1) dX9_go_186 rfl rfl (Nat.le_of_ble_eq_true rfl) ?_
      refine b_get (a := 123) (z := ((s : Nat) : Int)) (t := 0) dX9_go_187 fwX9_235 (by decide) rfl (by decide) rfl rfl ((ib 19 (by decide) (by decide)).trans hs) ?_
      refine a_isub (z := (((i : Nat) : Int) - ((s : Nat) : Int))) dX9_go_190 (w_ok (by omega) (by omega)) ?_
      refine a_iconst dX9_go_191 ⟨by decide, by decide⟩ ?_
      refine a_icmp_ge (tgt := 218) dX9_go_192 (by decide) (fun c192_2 => ?_) (fun c192_2 => ?_)
      · refine a_aload_n (j := 1) dX9_go_218 rfl rfl (Nat.le_of_ble_eq_true rfl) ?_
        refine b_get (a := 123) (z := v) (t := 0) dX9_go_219 fwX9_247 (by decide) rfl (by decide) rfl rfl iw ?_
        refine b_put (a := 123) (v := vI v) dX9_go_222 pwX9_247 (fun h => nomatch h) (by decide) rfl (by decide) rfl rfl (fit_int _) ?_
        show Aj γ mX9_go d 0 0 Post 225 [(1, vI c), (0, vA 123)] [] (mk (up2 h1 123 21 v) τ)
        refine a_aload_n (j := 1) dX9_go_225 rfl rfl (Nat.le_of_ble_eq_true rfl) ?_
        refine a_dup dX9_go_226 (fun h => nomatch h) ?_
        refine b_get (a := 123) (z := ((i : Nat) : Int)) (t := 0) dX9_go_227 fwX9_232 (by decide) rfl (by decide) rfl rfl ((up2_ne (by omega)).trans ia) ?_
        refine a_iconst dX9_go_230 ⟨by decide, by decide⟩ ?_
        refine a_iadd (z := (((i : Nat) : Int) + 1)) dX9_go_231 (w_ok (by omega) (by omega)) ?_
        refine b_put (a := 123) (v := vI (((i : Nat) : Int) + 1)) dX9_go_232 pwX9_232 (fun h => nomatch h) (by decide) rfl (by decide) rfl rfl (fit_int _) ?_
        show Aj γ mX9_go d 0 0 Post 235 [(1, vI c), (0, vA 123)] [] (mk (up2 (up2 h1 123 21 v) 123 18 (((i : Nat) : Int) + 1)) τ)
        refine a_goto (tgt := 170) dX9_go_235 (by decide) ?_
        have hg := soF_2 (by assumption : soF (B i) = 2)
        refine a_lv (lv' := [(1, vI c), (0, vA 123)]) (by intro q hq; simp only [List.mem_cons, List.not_mem_nil, or_false] at hq ⊢; rcases hq with rfl | rfl <;> simp) (ih (i + 1) v (up2 (up2 h1 123 21 v) 123 18 (((i : Nat) : Int) + 1)) (by omega) (by omega) (by omega) (Fr_u (by decide) (Fr_u (by decide) (Fr_m (by decide) hF))) (up2_at.trans (by omega)) ((up2_ne (by omega)).trans up2_at) (fun _ => by omega) (by omega) (fun k hk1 hk2 => ((up2_ne (by omega)).trans ((up2_ne (by omega)).trans (ib k hk1 hk2)))) (fun j h1 h2 => by
          by_cases c : j = i
          · subst c; exact hg
          · exact idg j h1 (by omega)) ((rnn_s (by assumption) (by assumption)).symm.trans iv))
      · refine a_bipush dX9_go_195 ⟨by decide, by decide, by decide⟩ ?_
        refine a_aload_n (j := 1) dX9_go_197 rfl rfl (Nat.le_of_ble_eq_true rfl) ?_
        refine b_get (a := 123) (z := v) (t := 0) dX9_go_198 fwX9_247 (by decide) rfl (by decide) rfl rfl iw ?_
        refine a_imul (z := (10 * v)) dX9_go_201 (w_ok (by omega) (by omega)) ?_
        refine a_aload_n (j := 1) dX9_go_202 rfl rfl (Nat.le_of_ble_eq_true rfl) ?_
        refine b_getp (a := 123) (p := 137) dX9_go_203 fwX9_50 (by decide) rfl (by decide) rfl rfl ?_
        refine a_aload_n (j := 1) dX9_go_206 rfl rfl (Nat.le_of_ble_eq_true rfl) ?_
        refine b_get (a := 123) (z := ((i : Nat) : Int)) (t := 0) dX9_go_207 fwX9_232 (by decide) rfl (by decide) rfl rfl ia ?_
        refine b_iaload (a := 137) (z := (B i)) i dX9_go_210 (by decide) rfl rfl (by omega) (sp_nil rfl _) ((Fr_v hF (by decide)).trans (hB i (by omega))) (fun r210_3 => ?_)
        refine a_iadd (z := ((10 * v) + (B i))) dX9_go_211 (w_ok (by omega) (by omega)) ?_
        refine a_bipush dX9_go_212 ⟨by decide, by decide, by decide⟩ ?_
        refine a_isub (z := (((10 * v) + (B i)) - 48)) dX9_go_214 (w_ok (by omega) (by omega)) ?_
        refine a_goto (tgt := 222) dX9_go_215 (by decide) ?_
        refine b_put (a := 123) (v := vI (((10 * v) + (B i)) - 48)) dX9_go_222 pwX9_247 (fun h => nomatch h) (by decide) rfl (by decide) rfl rfl (fit_int _) ?_
        show Aj γ mX9_go d 0 0 Post 225 [(1, vI c), (0, vA 123)] [] (mk (up2 h1 123 21 (((10 * v) + (B i)) - 48)) τ)
        refine a_aload_n (j := 1) dX9_go_225 rfl rfl (Nat.le_of_ble_eq_true rfl) ?_
        refine a_dup dX9_go_226 (fun h => nomatch h) ?_
        refine b_get (a := 123) (z := ((i : Nat) : Int)) (t := 0) dX9_go_227 fwX9_232 (by decide) rfl (by decide) rfl rfl ((up2_ne (by omega)).trans ia) ?_
        refine a_iconst dX9_go_230 ⟨by decide, by decide⟩ ?_
        refine a_iadd (z := (((i : Nat) : Int) + 1)) dX9_go_231 (w_ok (by omega) (by omega)) ?_
        refine b_put (a := 123) (v := vI (((i : Nat) : Int) + 1)) dX9_go_232 pwX9_232 (fun h => nomatch h) (by decide) rfl (by decide) rfl rfl (fit_int _) ?_
        show Aj γ mX9_go d 0 0 Post 235 [(1, vI c), (0, vA 123)] [] (mk (up2 (up2 h1 123 21 (((10 * v) + (B i)) - 48)) 123 18 (((i : Nat) : Int) + 1)) τ)
        refine a_goto (tgt := 170) dX9_go_235 (by decide) ?_
        have hg := soF_2 (by assumption : soF (B i) = 2)
        have hnv : 10 * v + B i - 48 = numF B s (i + 1 - s) := by
          have e1 : i + 1 - s = (i - s) + 1 := by omega
          have e2 : s + (i - s) = i := by omega
          rw [e1]
          show _ = 10 * numF B s (i - s) + B (s + (i - s)) - 48
          rw [e2, ← iq (by omega)]
        refine a_lv (lv' := [(1, vI c), (0, vA 123)]) (by intro q hq; simp only [List.mem_cons, List.not_mem_nil, or_false] at hq ⊢; rcases hq with rfl | rfl <;> simp) (ih (i + 1) (((10 * v) + (B i)) - 48) (up2 (up2 h1 123 21 (((10 * v) + (B i)) - 48)) 123 18 (((i : Nat) : Int) + 1)) (by omega) (by omega) (by omega) (Fr_u (by decide) (Fr_u (by decide) (Fr_m (by decide) hF))) (up2_at.trans (by omega)) ((up2_ne (by omega)).trans up2_at) (fun _ => by have := hnv; omega) (by omega) (fun k hk1 hk2 => ((up2_ne (by omega)).trans ((up2_ne (by omega)).trans (ib k hk1 hk2)))) (fun j h1 h2 => by
          by_cases c : j = i
          · subst c; exact hg
          · exact idg j h1 (by omega)) ((rnn_s (by assumption) (by assumption)).symm.trans iv))
    · show Aj γ mX9_go d 0 0 Post 178 [(1, vI c), (0, vA 123)] [vI 0] (mk h1 τ)
      refine a_if_eq (tgt := 238) dX9_go_178 (by decide) (fun _ => ?_) (fun c => absurd c (by decide))
      have hx : rnn B 2 (n - i) i = i := by
        by_cases hin : i < n
        · exact rnn_n (fun e => (by assumption : ¬ (i < n ∧ soF (B i) = 2)) ⟨hin, e⟩)
        · exact rnn_e (by omega)
      have hS : S = i := by rw [← iv, hx]
      subst hS
      exact kE _ hF ia (fun q => iw.trans (iq q)) ib idg
theorem RTk0 {B : Nat → Int} {n s : Nat} {h : Nat → Nat → Int} (e1 : h 123 17 = ((n : Nat) : Int)) (e2 : ∀ k, k < n → h 137 k = B k) (e3 : h 123 18 = ((s : Nat) : Int)) (e4 : h 123 19 = ((s : Nat) : Int)) (e5 : h 123 20 = 0) (hV : tkV B n (0, s, s)) : RTk B n h (0, s, s) :=
  ⟨e1, e2, e3, e4, e5.trans (rtk_ne (by decide)).symm, fun q => absurd (show (0 : Int) = 1 ∨ (0 : Int) = 3 from q) (by decide), fun q => absurd (show (0 : Int) = 2 from q) (by decide), fun q => absurd (show (0 : Int) = 1 ∨ (0 : Int) = 2 from q) (by decide), fun q => absurd (show (0 : Int) = 3 from q) (by decide), hV⟩
theorem RTk3 {B : Nat → Int} {n s : Nat} {h : Nat → Nat → Int} (e1 : h 123 17 = ((n : Nat) : Int)) (e2 : ∀ k, k < n → h 137 k = B k) (e3 : h 123 18 = ((s + 1 : Nat) : Int)) (e4 : h 123 19 = ((s : Nat) : Int)) (e5 : h 123 20 = 3) (e6 : h 123 21 = B s) (e7 : h 123 22 < ((s + 1 : Nat) : Int)) (hV : tkV B n (3, s, s + 1)) : RTk B n h (3, s, s + 1) :=
  ⟨e1, e2, e3, e4, e5.trans (rtk_ne (by decide)).symm, fun _ => e6, fun q => absurd (show (3 : Int) = 2 from q) (by decide), fun q => absurd (show (3 : Int) = 1 ∨ (3 : Int) = 2 from q) (by decide), fun _ => e7, hV⟩
theorem RTk1 {B : Nat → Int} {n s e : Nat} {q : Int} {h : Nat → Nat → Int} (e1 : h 123 17 = ((n : Nat) : Int)) (e2 : ∀ k, k < n → h 137 k = B k) (e3 : h 123 18 = ((e : Nat) : Int)) (e4 : h 123 19 = ((s : Nat) : Int)) (e5 : h 123 20 = q) (hq : q = 1 ∨ q = 4) (e6 : h 123 21 = B s) (e7 : h 123 22 = ((e : Nat) : Int)) (hV : tkV B n (q, s, e)) : RTk B n h (q, s, e) :=
  ⟨e1, e2, e3, e4, e5.trans (rtk_ne (by omega)).symm, fun _ => e6, fun w => absurd (show q = 2 from w) (by omega), fun _ => e7, fun w => absurd (show q = 3 from w) (by omega), hV⟩
theorem RTk2 {B : Nat → Int} {n s e : Nat} {q z : Int} {h : Nat → Nat → Int} (e1 : h 123 17 = ((n : Nat) : Int)) (e2 : ∀ k, k < n → h 137 k = B k) (e3 : h 123 18 = ((e : Nat) : Int)) (e4 : h 123 19 = ((s : Nat) : Int)) (e5 : h 123 20 = z) (hq : (q = 4 ∧ z = 4) ∨ (q = 2 ∧ 4 < e - s ∧ z = 4) ∨ (q = 2 ∧ e - s ≤ 4 ∧ z = 2)) (e6 : e - s ≤ 4 → h 123 21 = numF B s (e - s)) (e7 : h 123 22 = ((e : Nat) : Int)) (hV : tkV B n (q, s, e)) : RTk B n h (q, s, e) := by
  refine ⟨e1, e2, e3, e4, e5.trans ?_, fun w => absurd (show q = 1 ∨ q = 3 from w) (by omega), fun _ w => e6 w, fun _ => e7, fun w => absurd (show q = 3 from w) (by omega), hV⟩
  show z = if q = 2 ∧ 4 < e - s then 4 else q
  split <;> omega
set_option maxHeartbeats 8000000 in
theorem l_r38 {γ : GT} {d : Nat} {B : Nat → Int} {n s e : Nat} {w z : Int} {u : Tk} {h : Nat → Nat → Int} {τ : List AC} {Post : Option AV → List AC → Prop} (hd : 2 ≤ d) (hn : h 123 17 = ((n : Nat) : Int)) (hm : n ≤ 96) (hB : ∀ k, k < n → h 137 k = B k) (hBr : ∀ k, 0 ≤ B k ∧ B k ≤ 255) (hs : h 123 18 = ((s : Nat) : Int)) (hz : h 123 22 = z) (hes : e ≤ s ∧ s ≤ n) (hw : (w = 1 ∧ z = ((e : Nat) : Int)) ∨ (w = 0 ∧ z < ((e : Nat) : Int))) (ht : (if n ≤ s then (0, s, s) else if soF (B s) = 3 then (3, s, s + 1) else (if s = e ∧ w = 1 then 4 else soF (B s), s, rnn B (soF (B s)) (n - (s + 1)) (s + 1))) = u) (hV : tkV B n u) (kQ : ∀ h', Fr [123] h h' → (∀ k, (k < 18 ∨ 22 < k) → h' 123 k = h 123 k) → RTk B n h' u → Post none (mk h' τ)) : Aj γ mX9_go d 0 0 Post 38 [(0, vA 123)] [] (mk h τ) := by
  refine a_aload_n (j := 0) dX9_go_38 rfl rfl (Nat.le_of_ble_eq_true rfl) ?_
  refine a_aload_n (j := 0) dX9_go_39 rfl rfl (Nat.le_of_ble_eq_true rfl) ?_
  refine b_get (a := 123) (z := ((s : Nat) : Int)) (t := 0) dX9_go_40 fwX9_232 (by decide) rfl (by decide) rfl rfl hs ?_
  refine b_put (a := 123) (v := vI ((s : Nat) : Int)) dX9_go_43 pwX9_235 (fun h => nomatch h) (by decide) rfl (by decide) rfl rfl (fit_int _) ?_
  show Aj γ mX9_go d 0 0 Post 46 [(0, vA 123)] [] (mk (up2 h 123 19 ((s : Nat) : Int)) τ)
  refine a_aload_n (j := 0) dX9_go_46 rfl rfl (Nat.le_of_ble_eq_true rfl) ?_
  refine b_get (a := 123) (z := ((s : Nat) : Int)) (t := 0) dX9_go_47 fwX9_235 (by decide) rfl (by decide) rfl rfl up2_at ?_
  refine a_aload_n (j := 0) dX9_go_50 rfl rfl (Nat.le_of_ble_eq_true rfl) ?_
  refine b_get (a := 123) (z := z) (t := 0) dX9_go_51 fwX9_238 (by decide) rfl (by decide) rfl rfl ((up2_ne (by omega)).trans hz) ?_
  refine a_icmp_ne (tgt := 61) dX9_go_54 (by decide) (fun c54_1 => ?_) (fun c54_1 => ?_)
  · refine a_iconst dX9_go_61 ⟨by decide, by decide⟩ ?_
    refine a_istore_n (lv' := [(1, vI 0), (0, vA 123)]) dX9_go_62 rfl (by decide) rfl ?_
    refine a_aload_n (j := 1) dX9_go_63 rfl rfl (Nat.le_of_ble_eq_true rfl) ?_
    refine b_get (a := 123) (z := ((s : Nat) : Int)) (t := 0) dX9_go_64 fwX9_235 (by decide) rfl (by decide) rfl rfl up2_at ?_
    refine a_aload_n (j := 1) dX9_go_67 rfl rfl (Nat.le_of_ble_eq_true rfl) ?_
    refine b_get (a := 123) (z := ((n : Nat) : Int)) (t := 0) dX9_go_68 fwX9_229 (by decide) rfl (by decide) rfl rfl ((up2_ne (by omega)).trans hn) ?_
    refine a_icmp_ne (tgt := 82) dX9_go_71 (by decide) (fun c71_2 => ?_) (fun c71_2 => ?_)
    · refine a_aload_n (j := 1) dX9_go_82 rfl rfl (Nat.le_of_ble_eq_true rfl) ?_
      refine a_aload_n (j := 1) dX9_go_83 rfl rfl (Nat.le_of_ble_eq_true rfl) ?_
      refine b_get (a := 123) (z := ((s : Nat) : Int)) (t := 0) dX9_go_84 fwX9_235 (by decide) rfl (by decide) rfl rfl up2_at ?_
      refine b_callV (d' := d - 1) (mc' := 0) (ms' := 0) (mc1 := 0) (ms1 := 0) (st := []) (b := 123) [vI ((s : Nat) : Int)] dX9_go_87 mwX9_isLetter lkX9_244 (by decide) rfl rc_X9 rfl (Nat.le_of_ble_eq_true rfl) (by omega) rfl rfl (c_isL (B := B) (n := n) (p := s) ((up2_ne (by omega)).trans hn) hm (by rw [((up2_row (by omega)).trans rfl)]; exact hB) (fun l3 m3 => ?_) (fun l3 => ?_))
      · show Aj γ mX9_go d 0 0 Post 90 [(1, vI 0), (0, vA 123)] [vI 1] (mk (up2 h 123 19 ((s : Nat) : Int)) τ)
        refine a_if_eq (tgt := 154) dX9_go_90 (by decide) (fun c => absurd c (by decide)) (fun _ => ?_)
        have hsoe : soF (B s) = 1 := by assumption
        have hrs := rnn_rng (B := B) (q := 1) (n - (s + 1)) (s + 1)
        have hre : rnn B 1 (n - s) s = rnn B 1 (n - (s + 1)) (s + 1) := rnn_s (by omega) hsoe
        rw [hsoe] at ht
        generalize hS : rnn B 1 (n - (s + 1)) (s + 1) = S at ht hrs hre
        refine l_rL (h := (up2 h 123 19 ((s : Nat) : Int))) (B := B) (n := n) (S := S) (c := 0) hd ((up2_ne (by omega)).trans hn) hm (by rw [((up2_row (by omega)).trans rfl)]; exact hB) ?_ (n + 1) s _ (by omega) (by omega) Fr_r ((up2_ne (by omega)).trans hs) (fun k hk => rfl) hre
        intro h3 hF3 e3 ek
        refine a_aload_n (j := 1) dX9_go_117 rfl rfl (Nat.le_of_ble_eq_true rfl) ?_
        refine a_iload_n (j := 0) dX9_go_118 rfl rfl ?_
        refine a_if_eq (tgt := 126) dX9_go_119 (by decide) (fun _ => ?_) (fun c => absurd c (by decide))
        refine a_iconst dX9_go_126 ⟨by decide, by decide⟩ ?_
        refine b_put (a := 123) (v := vI 1) dX9_go_127 pwX9_241 (fun h => nomatch h) (by decide) rfl (by decide) rfl rfl (fit_int _) ?_
        show Aj γ mX9_go d 0 0 Post 130 [(1, vI 0), (0, vA 123)] [] (mk (up2 h3 123 20 1) τ)
        refine a_aload_n (j := 1) dX9_go_130 rfl rfl (Nat.le_of_ble_eq_true rfl) ?_
        refine a_aload_n (j := 1) dX9_go_131 rfl rfl (Nat.le_of_ble_eq_true rfl) ?_
        refine b_getp (a := 123) (p := 137) dX9_go_132 fwX9_50 (by decide) rfl (by decide) rfl rfl ?_
        refine a_aload_n (j := 1) dX9_go_135 rfl rfl (Nat.le_of_ble_eq_true rfl) ?_
        refine b_get (a := 123) (z := ((s : Nat) : Int)) (t := 0) dX9_go_136 fwX9_235 (by decide) rfl (by decide) rfl rfl ((up2_ne (by omega)).trans ((ek 19 (by decide)).trans up2_at)) ?_
        refine b_iaload (a := 137) (z := (B s)) s dX9_go_139 (by decide) rfl rfl (by omega) (sp_nil rfl _) ((up2_ne (by omega)).trans ((Fr_v hF3 (by decide)).trans ((up2_ne (by omega)).trans (hB s (by omega))))) (fun r139_4 => ?_)
        refine b_put (a := 123) (v := vI (B s)) dX9_go_140 pwX9_247 (fun h => nomatch h) (by decide) rfl (by decide) rfl rfl (fit_int _) ?_
        show Aj γ mX9_go d 0 0 Post 143 [(1, vI 0), (0, vA 123)] [] (mk (up2 (up2 h3 123 20 1) 123 21 (B s)) τ)
        refine a_aload_n (j := 1) dX9_go_143 rfl rfl (Nat.le_of_ble_eq_true rfl) ?_
        refine a_aload_n (j := 1) dX9_go_144 rfl rfl (Nat.le_of_ble_eq_true rfl) ?_
        refine b_get (a := 123) (z := ((S : Nat) : Int)) (t := 0) dX9_go_145 fwX9_232 (by decide) rfl (by decide) rfl rfl ((up2_ne (by omega)).trans ((up2_ne (by omega)).trans e3)) ?_
        refine b_put (a := 123) (v := vI ((S : Nat) : Int)) dX9_go_148 pwX9_238 (fun h => nomatch h) (by decide) rfl (by decide) rfl rfl (fit_int _) ?_
        show Aj γ mX9_go d 0 0 Post 151 [(1, vI 0), (0, vA 123)] [] (mk (up2 (up2 (up2 h3 123 20 1) 123 21 (B s)) 123 22 ((S : Nat) : Int)) τ)
        refine a_goto (tgt := 303) dX9_go_151 (by decide) ?_
        exact a_vret dX9_go_303 rfl (by rw [if_neg (by omega), if_neg (by omega)] at ht; (first | rw [if_pos ⟨by omega, by omega⟩] at ht | rw [if_neg (by omega)] at ht); subst ht; exact kQ _ (Fr_u (by decide) (Fr_u (by decide) (Fr_u (by decide) (Fr_t (Fr_u (by decide) Fr_r) (Fr_m (by decide) hF3))))) (fun k hk => ((up2_ne (by omega)).trans ((up2_ne (by omega)).trans ((up2_ne (by omega)).trans ((ek k (by omega)).trans ((up2_ne (by omega)).trans rfl)))))) (RTk1 (s := s) (q := 1) ((up2_ne (by omega)).trans ((up2_ne (by omega)).trans ((up2_ne (by omega)).trans ((ek 17 (by decide)).trans ((up2_ne (by omega)).trans hn))))) (by rw [((up2_row (by omega)).trans ((up2_row (by omega)).trans ((up2_row (by omega)).trans ((hF3 137 (by decide)).trans ((up2_row (by omega)).trans rfl)))))]; exact hB) (((up2_ne (by omega)).trans ((up2_ne (by omega)).trans ((up2_ne (by omega)).trans e3))).trans (by omega)) (((up2_ne (by omega)).trans ((up2_ne (by omega)).trans ((up2_ne (by omega)).trans ((ek 19 (by decide)).trans up2_at)))).trans (by omega)) ((up2_ne (by omega)).trans ((up2_ne (by omega)).trans up2_at)) (by omega) ((up2_ne (by omega)).trans up2_at) (up2_at.trans (by omega)) hV))
      · show Aj γ mX9_go d 0 0 Post 90 [(1, vI 0), (0, vA 123)] [vI 0] (mk (up2 h 123 19 ((s : Nat) : Int)) τ)
        refine a_if_eq (tgt := 154) dX9_go_90 (by decide) (fun _ => ?_) (fun c => absurd c (by decide))
        refine a_aload_n (j := 1) dX9_go_154 rfl rfl (Nat.le_of_ble_eq_true rfl) ?_
        refine a_aload_n (j := 1) dX9_go_155 rfl rfl (Nat.le_of_ble_eq_true rfl) ?_
        refine b_get (a := 123) (z := ((s : Nat) : Int)) (t := 0) dX9_go_156 fwX9_235 (by decide) rfl (by decide) rfl rfl up2_at ?_
        refine b_callV (d' := d - 1) (mc' := 0) (ms' := 0) (mc1 := 0) (ms1 := 0) (st := []) (b := 123) [vI ((s : Nat) : Int)] dX9_go_159 mwX9_isFigure lkX9_250 (by decide) rfl rc_X9 rfl (Nat.le_of_ble_eq_true rfl) (by omega) rfl rfl (c_isF (B := B) (n := n) (p := s) ((up2_ne (by omega)).trans hn) hm (by rw [((up2_row (by omega)).trans rfl)]; exact hB) (fun l5 m5 => ?_) (fun l5 => ?_))
        · show Aj γ mX9_go d 0 0 Post 162 [(1, vI 0), (0, vA 123)] [vI 1] (mk (up2 h 123 19 ((s : Nat) : Int)) τ)
          refine a_if_eq (tgt := 275) dX9_go_162 (by decide) (fun c => absurd c (by decide)) (fun _ => ?_)
          refine a_aload_n (j := 1) dX9_go_165 rfl rfl (Nat.le_of_ble_eq_true rfl) ?_
          refine a_iconst dX9_go_166 ⟨by decide, by decide⟩ ?_
          refine b_put (a := 123) (v := vI 0) dX9_go_167 pwX9_247 (fun h => nomatch h) (by decide) rfl (by decide) rfl rfl (fit_int _) ?_
          show Aj γ mX9_go d 0 0 Post 170 [(1, vI 0), (0, vA 123)] [] (mk (up2 (up2 h 123 19 ((s : Nat) : Int)) 123 21 0) τ)
          have hsoe : soF (B s) = 2 := by assumption
          have hrs := rnn_rng (B := B) (q := 2) (n - (s + 1)) (s + 1)
          have hre : rnn B 2 (n - s) s = rnn B 2 (n - (s + 1)) (s + 1) := rnn_s (by omega) hsoe
          rw [hsoe] at ht
          generalize hS : rnn B 2 (n - (s + 1)) (s + 1) = S at ht hrs hre
          refine l_rD (h := (up2 (up2 h 123 19 ((s : Nat) : Int)) 123 21 0)) (B := B) (n := n) (s := s) (S := S) (c := 0) hd ((up2_ne (by omega)).trans ((up2_ne (by omega)).trans hn)) hm (by rw [((up2_row (by omega)).trans ((up2_row (by omega)).trans rfl))]; exact hB) hBr ((up2_ne (by omega)).trans up2_at) ?_ (n + 1) s 0 _ (Nat.le_refl _) (by omega) (by omega) Fr_r ((up2_ne (by omega)).trans ((up2_ne (by omega)).trans hs)) up2_at (fun _ => by rw [Nat.sub_self]; rfl) ⟨by decide, by decide⟩ (fun k hk1 hk2 => rfl) (fun j h1 h2 => by omega) hre
          intro h4 hF3 e3 e21 ek edg
          refine a_aload_n (j := 1) dX9_go_238 rfl rfl (Nat.le_of_ble_eq_true rfl) ?_
          refine a_iload_n (j := 0) dX9_go_239 rfl rfl ?_
          refine a_if_ne (tgt := 256) dX9_go_240 (by decide) (fun c => absurd c (by decide)) (fun _ => ?_)
          refine a_aload_n (j := 1) dX9_go_243 rfl rfl (Nat.le_of_ble_eq_true rfl) ?_
          refine b_get (a := 123) (z := ((S : Nat) : Int)) (t := 0) dX9_go_244 fwX9_232 (by decide) rfl (by decide) rfl rfl e3 ?_
          refine a_aload_n (j := 1) dX9_go_247 rfl rfl (Nat.le_of_ble_eq_true rfl) ?_
          refine b_get (a := 123) (z := ((s : Nat) : Int)) (t := 0) dX9_go_248 fwX9_235 (by decide) rfl (by decide) rfl rfl ((ek 19 (by decide) (by decide)).trans ((up2_ne (by omega)).trans up2_at)) ?_
          refine a_isub (z := (((S : Nat) : Int) - ((s : Nat) : Int))) dX9_go_251 (w_ok (by omega) (by omega)) ?_
          refine a_iconst dX9_go_252 ⟨by decide, by decide⟩ ?_
          refine a_icmp_le (tgt := 260) dX9_go_253 (by decide) (fun c253_6 => ?_) (fun c253_6 => ?_)
          · refine a_iconst dX9_go_260 ⟨by decide, by decide⟩ ?_
            refine b_put (a := 123) (v := vI 2) dX9_go_261 pwX9_241 (fun h => nomatch h) (by decide) rfl (by decide) rfl rfl (fit_int _) ?_
            show Aj γ mX9_go d 0 0 Post 264 [(1, vI 0), (0, vA 123)] [] (mk (up2 h4 123 20 2) τ)
            refine a_aload_n (j := 1) dX9_go_264 rfl rfl (Nat.le_of_ble_eq_true rfl) ?_
            refine a_aload_n (j := 1) dX9_go_265 rfl rfl (Nat.le_of_ble_eq_true rfl) ?_
            refine b_get (a := 123) (z := ((S : Nat) : Int)) (t := 0) dX9_go_266 fwX9_232 (by decide) rfl (by decide) rfl rfl ((up2_ne (by omega)).trans e3) ?_
            refine b_put (a := 123) (v := vI ((S : Nat) : Int)) dX9_go_269 pwX9_238 (fun h => nomatch h) (by decide) rfl (by decide) rfl rfl (fit_int _) ?_
            show Aj γ mX9_go d 0 0 Post 272 [(1, vI 0), (0, vA 123)] [] (mk (up2 (up2 h4 123 20 2) 123 22 ((S : Nat) : Int)) τ)
            refine a_goto (tgt := 303) dX9_go_272 (by decide) ?_
            exact a_vret dX9_go_303 rfl (by rw [if_neg (by omega), if_neg (by omega)] at ht; (first | rw [if_pos ⟨by omega, by omega⟩] at ht | rw [if_neg (by omega)] at ht); subst ht; exact kQ _ (Fr_u (by decide) (Fr_u (by decide) (Fr_t (Fr_u (by decide) (Fr_u (by decide) Fr_r)) (Fr_m (by decide) hF3)))) (fun k hk => ((up2_ne (by omega)).trans ((up2_ne (by omega)).trans ((ek k (by omega) (by omega)).trans ((up2_ne (by omega)).trans ((up2_ne (by omega)).trans rfl)))))) (RTk2 (s := s) ((up2_ne (by omega)).trans ((up2_ne (by omega)).trans ((ek 17 (by decide) (by decide)).trans ((up2_ne (by omega)).trans ((up2_ne (by omega)).trans hn))))) (by rw [((up2_row (by omega)).trans ((up2_row (by omega)).trans ((hF3 137 (by decide)).trans ((up2_row (by omega)).trans ((up2_row (by omega)).trans rfl)))))]; exact hB) (((up2_ne (by omega)).trans ((up2_ne (by omega)).trans e3)).trans (by omega)) (((up2_ne (by omega)).trans ((up2_ne (by omega)).trans ((ek 19 (by decide) (by decide)).trans ((up2_ne (by omega)).trans up2_at)))).trans (by omega)) ((up2_ne (by omega)).trans up2_at) (by omega) (fun q => ((up2_ne (by omega)).trans ((up2_ne (by omega)).trans (e21 q)))) (up2_at.trans (by omega)) hV))
          · refine a_iconst dX9_go_256 ⟨by decide, by decide⟩ ?_
            refine a_goto (tgt := 261) dX9_go_257 (by decide) ?_
            refine b_put (a := 123) (v := vI 4) dX9_go_261 pwX9_241 (fun h => nomatch h) (by decide) rfl (by decide) rfl rfl (fit_int _) ?_
            show Aj γ mX9_go d 0 0 Post 264 [(1, vI 0), (0, vA 123)] [] (mk (up2 h4 123 20 4) τ)
            refine a_aload_n (j := 1) dX9_go_264 rfl rfl (Nat.le_of_ble_eq_true rfl) ?_
            refine a_aload_n (j := 1) dX9_go_265 rfl rfl (Nat.le_of_ble_eq_true rfl) ?_
            refine b_get (a := 123) (z := ((S : Nat) : Int)) (t := 0) dX9_go_266 fwX9_232 (by decide) rfl (by decide) rfl rfl ((up2_ne (by omega)).trans e3) ?_
            refine b_put (a := 123) (v := vI ((S : Nat) : Int)) dX9_go_269 pwX9_238 (fun h => nomatch h) (by decide) rfl (by decide) rfl rfl (fit_int _) ?_
            show Aj γ mX9_go d 0 0 Post 272 [(1, vI 0), (0, vA 123)] [] (mk (up2 (up2 h4 123 20 4) 123 22 ((S : Nat) : Int)) τ)
            refine a_goto (tgt := 303) dX9_go_272 (by decide) ?_
            exact a_vret dX9_go_303 rfl (by rw [if_neg (by omega), if_neg (by omega)] at ht; (first | rw [if_pos ⟨by omega, by omega⟩] at ht | rw [if_neg (by omega)] at ht); subst ht; exact kQ _ (Fr_u (by decide) (Fr_u (by decide) (Fr_t (Fr_u (by decide) (Fr_u (by decide) Fr_r)) (Fr_m (by decide) hF3)))) (fun k hk => ((up2_ne (by omega)).trans ((up2_ne (by omega)).trans ((ek k (by omega) (by omega)).trans ((up2_ne (by omega)).trans ((up2_ne (by omega)).trans rfl)))))) (RTk2 (s := s) ((up2_ne (by omega)).trans ((up2_ne (by omega)).trans ((ek 17 (by decide) (by decide)).trans ((up2_ne (by omega)).trans ((up2_ne (by omega)).trans hn))))) (by rw [((up2_row (by omega)).trans ((up2_row (by omega)).trans ((hF3 137 (by decide)).trans ((up2_row (by omega)).trans ((up2_row (by omega)).trans rfl)))))]; exact hB) (((up2_ne (by omega)).trans ((up2_ne (by omega)).trans e3)).trans (by omega)) (((up2_ne (by omega)).trans ((up2_ne (by omega)).trans ((ek 19 (by decide) (by decide)).trans ((up2_ne (by omega)).trans up2_at)))).trans (by omega)) ((up2_ne (by omega)).trans up2_at) (by omega) (fun q => ((up2_ne (by omega)).trans ((up2_ne (by omega)).trans (e21 q)))) (up2_at.trans (by omega)) hV))
        · show Aj γ mX9_go d 0 0 Post 162 [(1, vI 0), (0, vA 123)] [vI 0] (mk (up2 h 123 19 ((s : Nat) : Int)) τ)
          refine a_if_eq (tgt := 275) dX9_go_162 (by decide) (fun _ => ?_) (fun c => absurd c (by decide))
          refine a_aload_n (j := 1) dX9_go_275 rfl rfl (Nat.le_of_ble_eq_true rfl) ?_
          refine a_iconst dX9_go_276 ⟨by decide, by decide⟩ ?_
          refine b_put (a := 123) (v := vI 3) dX9_go_277 pwX9_241 (fun h => nomatch h) (by decide) rfl (by decide) rfl rfl (fit_int _) ?_
          show Aj γ mX9_go d 0 0 Post 280 [(1, vI 0), (0, vA 123)] [] (mk (up2 (up2 h 123 19 ((s : Nat) : Int)) 123 20 3) τ)
          refine a_aload_n (j := 1) dX9_go_280 rfl rfl (Nat.le_of_ble_eq_true rfl) ?_
          refine a_aload_n (j := 1) dX9_go_281 rfl rfl (Nat.le_of_ble_eq_true rfl) ?_
          refine b_getp (a := 123) (p := 137) dX9_go_282 fwX9_50 (by decide) rfl (by decide) rfl rfl ?_
          refine a_aload_n (j := 1) dX9_go_285 rfl rfl (Nat.le_of_ble_eq_true rfl) ?_
          refine b_get (a := 123) (z := ((s : Nat) : Int)) (t := 0) dX9_go_286 fwX9_235 (by decide) rfl (by decide) rfl rfl ((up2_ne (by omega)).trans up2_at) ?_
          refine b_iaload (a := 137) (z := (B s)) s dX9_go_289 (by decide) rfl rfl (by omega) (sp_nil rfl _) ((up2_ne (by omega)).trans ((up2_ne (by omega)).trans (hB s (by omega)))) (fun r289_7 => ?_)
          refine b_put (a := 123) (v := vI (B s)) dX9_go_290 pwX9_247 (fun h => nomatch h) (by decide) rfl (by decide) rfl rfl (fit_int _) ?_
          show Aj γ mX9_go d 0 0 Post 293 [(1, vI 0), (0, vA 123)] [] (mk (up2 (up2 (up2 h 123 19 ((s : Nat) : Int)) 123 20 3) 123 21 (B s)) τ)
          refine a_aload_n (j := 1) dX9_go_293 rfl rfl (Nat.le_of_ble_eq_true rfl) ?_
          refine a_dup dX9_go_294 (fun h => nomatch h) ?_
          refine b_get (a := 123) (z := ((s : Nat) : Int)) (t := 0) dX9_go_295 fwX9_232 (by decide) rfl (by decide) rfl rfl ((up2_ne (by omega)).trans ((up2_ne (by omega)).trans ((up2_ne (by omega)).trans hs))) ?_
          refine a_iconst dX9_go_298 ⟨by decide, by decide⟩ ?_
          refine a_iadd (z := (((s : Nat) : Int) + 1)) dX9_go_299 (w_ok (by omega) (by omega)) ?_
          refine b_put (a := 123) (v := vI (((s : Nat) : Int) + 1)) dX9_go_300 pwX9_232 (fun h => nomatch h) (by decide) rfl (by decide) rfl rfl (fit_int _) ?_
          show Aj γ mX9_go d 0 0 Post 303 [(1, vI 0), (0, vA 123)] [] (mk (up2 (up2 (up2 (up2 h 123 19 ((s : Nat) : Int)) 123 20 3) 123 21 (B s)) 123 18 (((s : Nat) : Int) + 1)) τ)
          exact a_vret dX9_go_303 rfl (by have hso := soF_rng (B s); rw [if_neg (by omega), if_pos (by omega)] at ht; subst ht; exact kQ _ (Fr_u (by decide) (Fr_u (by decide) (Fr_u (by decide) (Fr_u (by decide) Fr_r)))) (fun k hk => ((up2_ne (by omega)).trans ((up2_ne (by omega)).trans ((up2_ne (by omega)).trans ((up2_ne (by omega)).trans rfl))))) (RTk3 (s := s) ((up2_ne (by omega)).trans ((up2_ne (by omega)).trans ((up2_ne (by omega)).trans ((up2_ne (by omega)).trans hn)))) (by rw [((up2_row (by omega)).trans ((up2_row (by omega)).trans ((up2_row (by omega)).trans ((up2_row (by omega)).trans rfl))))]; exact hB) (up2_at.trans (by omega)) (((up2_ne (by omega)).trans ((up2_ne (by omega)).trans ((up2_ne (by omega)).trans up2_at))).trans (by omega)) ((up2_ne (by omega)).trans ((up2_ne (by omega)).trans up2_at)) ((up2_ne (by omega)).trans up2_at) (by rw [((up2_ne (by omega)).trans ((up2_ne (by omega)).trans ((up2_ne (by omega)).trans ((up2_ne (by omega)).trans hz))))]; omega) hV))
    · refine a_aload_n (j := 1) dX9_go_74 rfl rfl (Nat.le_of_ble_eq_true rfl) ?_
      refine a_iconst dX9_go_75 ⟨by decide, by decide⟩ ?_
      refine b_put (a := 123) (v := vI 0) dX9_go_76 pwX9_241 (fun h => nomatch h) (by decide) rfl (by decide) rfl rfl (fit_int _) ?_
      show Aj γ mX9_go d 0 0 Post 79 [(1, vI 0), (0, vA 123)] [] (mk (up2 (up2 h 123 19 ((s : Nat) : Int)) 123 20 0) τ)
      refine a_goto (tgt := 303) dX9_go_79 (by decide) ?_
      exact a_vret dX9_go_303 rfl (by rw [if_pos (by omega)] at ht; subst ht; exact kQ _ (Fr_u (by decide) (Fr_u (by decide) Fr_r)) (fun k hk => ((up2_ne (by omega)).trans ((up2_ne (by omega)).trans rfl))) (RTk0 (s := s) ((up2_ne (by omega)).trans ((up2_ne (by omega)).trans hn)) (by rw [((up2_row (by omega)).trans ((up2_row (by omega)).trans rfl))]; exact hB) (((up2_ne (by omega)).trans ((up2_ne (by omega)).trans hs)).trans (by omega)) (((up2_ne (by omega)).trans up2_at).trans (by omega)) up2_at hV))
  · refine a_iconst dX9_go_57 ⟨by decide, by decide⟩ ?_
    refine a_goto (tgt := 62) dX9_go_58 (by decide) ?_
    refine a_istore_n (lv' := [(1, vI 1), (0, vA 123)]) dX9_go_62 rfl (by decide) rfl ?_
    refine a_aload_n (j := 1) dX9_go_63 rfl rfl (Nat.le_of_ble_eq_true rfl) ?_
    refine b_get (a := 123) (z := ((s : Nat) : Int)) (t := 0) dX9_go_64 fwX9_235 (by decide) rfl (by decide) rfl rfl up2_at ?_
    refine a_aload_n (j := 1) dX9_go_67 rfl rfl (Nat.le_of_ble_eq_true rfl) ?_
    refine b_get (a := 123) (z := ((n : Nat) : Int)) (t := 0) dX9_go_68 fwX9_229 (by decide) rfl (by decide) rfl rfl ((up2_ne (by omega)).trans hn) ?_
    refine a_icmp_ne (tgt := 82) dX9_go_71 (by decide) (fun c71_8 => ?_) (fun c71_8 => ?_)
    · refine a_aload_n (j := 1) dX9_go_82 rfl rfl (Nat.le_of_ble_eq_true rfl) ?_
      refine a_aload_n (j := 1) dX9_go_83 rfl rfl (Nat.le_of_ble_eq_true rfl) ?_
      refine b_get (a := 123) (z := ((s : Nat) : Int)) (t := 0) dX9_go_84 fwX9_235 (by decide) rfl (by decide) rfl rfl up2_at ?_
      refine b_callV (d' := d - 1) (mc' := 0) (ms' := 0) (mc1 := 0) (ms1 := 0) (st := []) (b := 123) [vI ((s : Nat) : Int)] dX9_go_87 mwX9_isLetter lkX9_244 (by decide) rfl rc_X9 rfl (Nat.le_of_ble_eq_true rfl) (by omega) rfl rfl (c_isL (B := B) (n := n) (p := s) ((up2_ne (by omega)).trans hn) hm (by rw [((up2_row (by omega)).trans rfl)]; exact hB) (fun l9 m9 => ?_) (fun l9 => ?_))
      · show Aj γ mX9_go d 0 0 Post 90 [(1, vI 1), (0, vA 123)] [vI 1] (mk (up2 h 123 19 ((s : Nat) : Int)) τ)
        refine a_if_eq (tgt := 154) dX9_go_90 (by decide) (fun c => absurd c (by decide)) (fun _ => ?_)
        have hsoe : soF (B s) = 1 := by assumption
        have hrs := rnn_rng (B := B) (q := 1) (n - (s + 1)) (s + 1)
        have hre : rnn B 1 (n - s) s = rnn B 1 (n - (s + 1)) (s + 1) := rnn_s (by omega) hsoe
        rw [hsoe] at ht
        generalize hS : rnn B 1 (n - (s + 1)) (s + 1) = S at ht hrs hre
        refine l_rL (h := (up2 h 123 19 ((s : Nat) : Int))) (B := B) (n := n) (S := S) (c := 1) hd ((up2_ne (by omega)).trans hn) hm (by rw [((up2_row (by omega)).trans rfl)]; exact hB) ?_ (n + 1) s _ (by omega) (by omega) Fr_r ((up2_ne (by omega)).trans hs) (fun k hk => rfl) hre
        intro h3 hF3 e3 ek
        refine a_aload_n (j := 1) dX9_go_117 rfl rfl (Nat.le_of_ble_eq_true rfl) ?_
        refine a_iload_n (j := 0) dX9_go_118 rfl rfl ?_
        refine a_if_eq (tgt := 126) dX9_go_119 (by decide) (fun c => absurd c (by decide)) (fun _ => ?_)
        refine a_iconst dX9_go_122 ⟨by decide, by decide⟩ ?_
        refine a_goto (tgt := 127) dX9_go_123 (by decide) ?_
        refine b_put (a := 123) (v := vI 4) dX9_go_127 pwX9_241 (fun h => nomatch h) (by decide) rfl (by decide) rfl rfl (fit_int _) ?_
        show Aj γ mX9_go d 0 0 Post 130 [(1, vI 1), (0, vA 123)] [] (mk (up2 h3 123 20 4) τ)
        refine a_aload_n (j := 1) dX9_go_130 rfl rfl (Nat.le_of_ble_eq_true rfl) ?_
        refine a_aload_n (j := 1) dX9_go_131 rfl rfl (Nat.le_of_ble_eq_true rfl) ?_
        refine b_getp (a := 123) (p := 137) dX9_go_132 fwX9_50 (by decide) rfl (by decide) rfl rfl ?_
        refine a_aload_n (j := 1) dX9_go_135 rfl rfl (Nat.le_of_ble_eq_true rfl) ?_
        refine b_get (a := 123) (z := ((s : Nat) : Int)) (t := 0) dX9_go_136 fwX9_235 (by decide) rfl (by decide) rfl rfl ((up2_ne (by omega)).trans ((ek 19 (by decide)).trans up2_at)) ?_
        refine b_iaload (a := 137) (z := (B s)) s dX9_go_139 (by decide) rfl rfl (by omega) (sp_nil rfl _) ((up2_ne (by omega)).trans ((Fr_v hF3 (by decide)).trans ((up2_ne (by omega)).trans (hB s (by omega))))) (fun r139_10 => ?_)
        refine b_put (a := 123) (v := vI (B s)) dX9_go_140 pwX9_247 (fun h => nomatch h) (by decide) rfl (by decide) rfl rfl (fit_int _) ?_
        show Aj γ mX9_go d 0 0 Post 143 [(1, vI 1), (0, vA 123)] [] (mk (up2 (up2 h3 123 20 4) 123 21 (B s)) τ)
        refine a_aload_n (j := 1) dX9_go_143 rfl rfl (Nat.le_of_ble_eq_true rfl) ?_
        refine a_aload_n (j := 1) dX9_go_144 rfl rfl (Nat.le_of_ble_eq_true rfl) ?_
        refine b_get (a := 123) (z := ((S : Nat) : Int)) (t := 0) dX9_go_145 fwX9_232 (by decide) rfl (by decide) rfl rfl ((up2_ne (by omega)).trans ((up2_ne (by omega)).trans e3)) ?_
        refine b_put (a := 123) (v := vI ((S : Nat) : Int)) dX9_go_148 pwX9_238 (fun h => nomatch h) (by decide) rfl (by decide) rfl rfl (fit_int _) ?_
        show Aj γ mX9_go d 0 0 Post 151 [(1, vI 1), (0, vA 123)] [] (mk (up2 (up2 (up2 h3 123 20 4) 123 21 (B s)) 123 22 ((S : Nat) : Int)) τ)
        refine a_goto (tgt := 303) dX9_go_151 (by decide) ?_
        exact a_vret dX9_go_303 rfl (by rw [if_neg (by omega), if_neg (by omega)] at ht; (first | rw [if_pos ⟨by omega, by omega⟩] at ht | rw [if_neg (by omega)] at ht); subst ht; exact kQ _ (Fr_u (by decide) (Fr_u (by decide) (Fr_u (by decide) (Fr_t (Fr_u (by decide) Fr_r) (Fr_m (by decide) hF3))))) (fun k hk => ((up2_ne (by omega)).trans ((up2_ne (by omega)).trans ((up2_ne (by omega)).trans ((ek k (by omega)).trans ((up2_ne (by omega)).trans rfl)))))) (RTk1 (s := s) (q := 4) ((up2_ne (by omega)).trans ((up2_ne (by omega)).trans ((up2_ne (by omega)).trans ((ek 17 (by decide)).trans ((up2_ne (by omega)).trans hn))))) (by rw [((up2_row (by omega)).trans ((up2_row (by omega)).trans ((up2_row (by omega)).trans ((hF3 137 (by decide)).trans ((up2_row (by omega)).trans rfl)))))]; exact hB) (((up2_ne (by omega)).trans ((up2_ne (by omega)).trans ((up2_ne (by omega)).trans e3))).trans (by omega)) (((up2_ne (by omega)).trans ((up2_ne (by omega)).trans ((up2_ne (by omega)).trans ((ek 19 (by decide)).trans up2_at)))).trans (by omega)) ((up2_ne (by omega)).trans ((up2_ne (by omega)).trans up2_at)) (by omega) ((up2_ne (by omega)).trans up2_at) (up2_at.trans (by omega)) hV))
      · show Aj γ mX9_go d 0 0 Post 90 [(1, vI 1), (0, vA 123)] [vI 0] (mk (up2 h 123 19 ((s : Nat) : Int)) τ)
        refine a_if_eq (tgt := 154) dX9_go_90 (by decide) (fun _ => ?_) (fun c => absurd c (by decide))
        refine a_aload_n (j := 1) dX9_go_154 rfl rfl (Nat.le_of_ble_eq_true rfl) ?_
        refine a_aload_n (j := 1) dX9_go_155 rfl rfl (Nat.le_of_ble_eq_true rfl) ?_
        refine b_get (a := 123) (z := ((s : Nat) : Int)) (t := 0) dX9_go_156 fwX9_235 (by decide) rfl (by decide) rfl rfl up2_at ?_
        refine b_callV (d' := d - 1) (mc' := 0) (ms' := 0) (mc1 := 0) (ms1 := 0) (st := []) (b := 123) [vI ((s : Nat) : Int)] dX9_go_159 mwX9_isFigure lkX9_250 (by decide) rfl rc_X9 rfl (Nat.le_of_ble_eq_true rfl) (by omega) rfl rfl (c_isF (B := B) (n := n) (p := s) ((up2_ne (by omega)).trans hn) hm (by rw [((up2_row (by omega)).trans rfl)]; exact hB) (fun l11 m11 => ?_) (fun l11 => ?_))
        · show Aj γ mX9_go d 0 0 Post 162 [(1, vI 1), (0, vA 123)] [vI 1] (mk (up2 h 123 19 ((s : Nat) : Int)) τ)
          refine a_if_eq (tgt := 275) dX9_go_162 (by decide) (fun c => absurd c (by decide)) (fun _ => ?_)
          refine a_aload_n (j := 1) dX9_go_165 rfl rfl (Nat.le_of_ble_eq_true rfl) ?_
          refine a_iconst dX9_go_166 ⟨by decide, by decide⟩ ?_
          refine b_put (a := 123) (v := vI 0) dX9_go_167 pwX9_247 (fun h => nomatch h) (by decide) rfl (by decide) rfl rfl (fit_int _) ?_
          show Aj γ mX9_go d 0 0 Post 170 [(1, vI 1), (0, vA 123)] [] (mk (up2 (up2 h 123 19 ((s : Nat) : Int)) 123 21 0) τ)
          have hsoe : soF (B s) = 2 := by assumption
          have hrs := rnn_rng (B := B) (q := 2) (n - (s + 1)) (s + 1)
          have hre : rnn B 2 (n - s) s = rnn B 2 (n - (s + 1)) (s + 1) := rnn_s (by omega) hsoe
          rw [hsoe] at ht
          generalize hS : rnn B 2 (n - (s + 1)) (s + 1) = S at ht hrs hre
          refine l_rD (h := (up2 (up2 h 123 19 ((s : Nat) : Int)) 123 21 0)) (B := B) (n := n) (s := s) (S := S) (c := 1) hd ((up2_ne (by omega)).trans ((up2_ne (by omega)).trans hn)) hm (by rw [((up2_row (by omega)).trans ((up2_row (by omega)).trans rfl))]; exact hB) hBr ((up2_ne (by omega)).trans up2_at) ?_ (n + 1) s 0 _ (Nat.le_refl _) (by omega) (by omega) Fr_r ((up2_ne (by omega)).trans ((up2_ne (by omega)).trans hs)) up2_at (fun _ => by rw [Nat.sub_self]; rfl) ⟨by decide, by decide⟩ (fun k hk1 hk2 => rfl) (fun j h1 h2 => by omega) hre
          intro h4 hF3 e3 e21 ek edg
          refine a_aload_n (j := 1) dX9_go_238 rfl rfl (Nat.le_of_ble_eq_true rfl) ?_
          refine a_iload_n (j := 0) dX9_go_239 rfl rfl ?_
          refine a_if_ne (tgt := 256) dX9_go_240 (by decide) (fun _ => ?_) (fun c => absurd c (by decide))
          refine a_iconst dX9_go_256 ⟨by decide, by decide⟩ ?_
          refine a_goto (tgt := 261) dX9_go_257 (by decide) ?_
          refine b_put (a := 123) (v := vI 4) dX9_go_261 pwX9_241 (fun h => nomatch h) (by decide) rfl (by decide) rfl rfl (fit_int _) ?_
          show Aj γ mX9_go d 0 0 Post 264 [(1, vI 1), (0, vA 123)] [] (mk (up2 h4 123 20 4) τ)
          refine a_aload_n (j := 1) dX9_go_264 rfl rfl (Nat.le_of_ble_eq_true rfl) ?_
          refine a_aload_n (j := 1) dX9_go_265 rfl rfl (Nat.le_of_ble_eq_true rfl) ?_
          refine b_get (a := 123) (z := ((S : Nat) : Int)) (t := 0) dX9_go_266 fwX9_232 (by decide) rfl (by decide) rfl rfl ((up2_ne (by omega)).trans e3) ?_
          refine b_put (a := 123) (v := vI ((S : Nat) : Int)) dX9_go_269 pwX9_238 (fun h => nomatch h) (by decide) rfl (by decide) rfl rfl (fit_int _) ?_
          show Aj γ mX9_go d 0 0 Post 272 [(1, vI 1), (0, vA 123)] [] (mk (up2 (up2 h4 123 20 4) 123 22 ((S : Nat) : Int)) τ)
          refine a_goto (tgt := 303) dX9_go_272 (by decide) ?_
          exact a_vret dX9_go_303 rfl (by rw [if_neg (by omega), if_neg (by omega)] at ht; (first | rw [if_pos ⟨by omega, by omega⟩] at ht | rw [if_neg (by omega)] at ht); subst ht; exact kQ _ (Fr_u (by decide) (Fr_u (by decide) (Fr_t (Fr_u (by decide) (Fr_u (by decide) Fr_r)) (Fr_m (by decide) hF3)))) (fun k hk => ((up2_ne (by omega)).trans ((up2_ne (by omega)).trans ((ek k (by omega) (by omega)).trans ((up2_ne (by omega)).trans ((up2_ne (by omega)).trans rfl)))))) (RTk2 (s := s) ((up2_ne (by omega)).trans ((up2_ne (by omega)).trans ((ek 17 (by decide) (by decide)).trans ((up2_ne (by omega)).trans ((up2_ne (by omega)).trans hn))))) (by rw [((up2_row (by omega)).trans ((up2_row (by omega)).trans ((hF3 137 (by decide)).trans ((up2_row (by omega)).trans ((up2_row (by omega)).trans rfl)))))]; exact hB) (((up2_ne (by omega)).trans ((up2_ne (by omega)).trans e3)).trans (by omega)) (((up2_ne (by omega)).trans ((up2_ne (by omega)).trans ((ek 19 (by decide) (by decide)).trans ((up2_ne (by omega)).trans up2_at)))).trans (by omega)) ((up2_ne (by omega)).trans up2_at) (by omega) (fun q => ((up2_ne (by omega)).trans ((up2_ne (by omega)).trans (e21 q)))) (up2_at.trans (by omega)) hV))
        · show Aj γ mX9_go d 0 0 Post 162 [(1, vI 1), (0, vA 123)] [vI 0] (mk (up2 h 123 19 ((s : Nat) : Int)) τ)
          refine a_if_eq (tgt := 275) dX9_go_162 (by decide) (fun _ => ?_) (fun c => absurd c (by decide))
          refine a_aload_n (j := 1) dX9_go_275 rfl rfl (Nat.le_of_ble_eq_true rfl) ?_
          refine a_iconst dX9_go_276 ⟨by decide, by decide⟩ ?_
          refine b_put (a := 123) (v := vI 3) dX9_go_277 pwX9_241 (fun h => nomatch h) (by decide) rfl (by decide) rfl rfl (fit_int _) ?_
          show Aj γ mX9_go d 0 0 Post 280 [(1, vI 1), (0, vA 123)] [] (mk (up2 (up2 h 123 19 ((s : Nat) : Int)) 123 20 3) τ)
          refine a_aload_n (j := 1) dX9_go_280 rfl rfl (Nat.le_of_ble_eq_true rfl) ?_
          refine a_aload_n (j := 1) dX9_go_281 rfl rfl (Nat.le_of_ble_eq_true rfl) ?_
          refine b_getp (a := 123) (p := 137) dX9_go_282 fwX9_50 (by decide) rfl (by decide) rfl rfl ?_
          refine a_aload_n (j := 1) dX9_go_285 rfl rfl (Nat.le_of_ble_eq_true rfl) ?_
          refine b_get (a := 123) (z := ((s : Nat) : Int)) (t := 0) dX9_go_286 fwX9_235 (by decide) rfl (by decide) rfl rfl ((up2_ne (by omega)).trans up2_at) ?_
          refine b_iaload (a := 137) (z := (B s)) s dX9_go_289 (by decide) rfl rfl (by omega) (sp_nil rfl _) ((up2_ne (by omega)).trans ((up2_ne (by omega)).trans (hB s (by omega)))) (fun r289_12 => ?_)
          refine b_put (a := 123) (v := vI (B s)) dX9_go_290 pwX9_247 (fun h => nomatch h) (by decide) rfl (by decide) rfl rfl (fit_int _) ?_
          show Aj γ mX9_go d 0 0 Post 293 [(1, vI 1), (0, vA 123)] [] (mk (up2 (up2 (up2 h 123 19 ((s : Nat) : Int)) 123 20 3) 123 21 (B s)) τ)
          refine a_aload_n (j := 1) dX9_go_293 rfl rfl (Nat.le_of_ble_eq_true rfl) ?_
          refine a_dup dX9_go_294 (fun h => nomatch h) ?_
          refine b_get (a := 123) (z := ((s : Nat) : Int)) (t := 0) dX9_go_295 fwX9_232 (by decide) rfl (by decide) rfl rfl ((up2_ne (by omega)).trans ((up2_ne (by omega)).trans ((up2_ne (by omega)).trans hs))) ?_
          refine a_iconst dX9_go_298 ⟨by decide, by decide⟩ ?_
          refine a_iadd (z := (((s : Nat) : Int) + 1)) dX9_go_299 (w_ok (by omega) (by omega)) ?_
          refine b_put (a := 123) (v := vI (((s : Nat) : Int) + 1)) dX9_go_300 pwX9_232 (fun h => nomatch h) (by decide) rfl (by decide) rfl rfl (fit_int _) ?_
          show Aj γ mX9_go d 0 0 Post 303 [(1, vI 1), (0, vA 123)] [] (mk (up2 (up2 (up2 (up2 h 123 19 ((s : Nat) : Int)) 123 20 3) 123 21 (B s)) 123 18 (((s : Nat) : Int) + 1)) τ)
          exact a_vret dX9_go_303 rfl (by have hso := soF_rng (B s); rw [if_neg (by omega), if_pos (by omega)] at ht; subst ht; exact kQ _ (Fr_u (by decide) (Fr_u (by decide) (Fr_u (by decide) (Fr_u (by decide) Fr_r)))) (fun k hk => ((up2_ne (by omega)).trans ((up2_ne (by omega)).trans ((up2_ne (by omega)).trans ((up2_ne (by omega)).trans rfl))))) (RTk3 (s := s) ((up2_ne (by omega)).trans ((up2_ne (by omega)).trans ((up2_ne (by omega)).trans ((up2_ne (by omega)).trans hn)))) (by rw [((up2_row (by omega)).trans ((up2_row (by omega)).trans ((up2_row (by omega)).trans ((up2_row (by omega)).trans rfl))))]; exact hB) (up2_at.trans (by omega)) (((up2_ne (by omega)).trans ((up2_ne (by omega)).trans ((up2_ne (by omega)).trans up2_at))).trans (by omega)) ((up2_ne (by omega)).trans ((up2_ne (by omega)).trans up2_at)) ((up2_ne (by omega)).trans up2_at) (by rw [((up2_ne (by omega)).trans ((up2_ne (by omega)).trans ((up2_ne (by omega)).trans ((up2_ne (by omega)).trans hz))))]; omega) hV))
    · refine a_aload_n (j := 1) dX9_go_74 rfl rfl (Nat.le_of_ble_eq_true rfl) ?_
      refine a_iconst dX9_go_75 ⟨by decide, by decide⟩ ?_
      refine b_put (a := 123) (v := vI 0) dX9_go_76 pwX9_241 (fun h => nomatch h) (by decide) rfl (by decide) rfl rfl (fit_int _) ?_
      show Aj γ mX9_go d 0 0 Post 79 [(1, vI 1), (0, vA 123)] [] (mk (up2 (up2 h 123 19 ((s : Nat) : Int)) 123 20 0) τ)
      refine a_goto (tgt := 303) dX9_go_79 (by decide) ?_
      exact a_vret dX9_go_303 rfl (by rw [if_pos (by omega)] at ht; subst ht; exact kQ _ (Fr_u (by decide) (Fr_u (by decide) Fr_r)) (fun k hk => ((up2_ne (by omega)).trans ((up2_ne (by omega)).trans rfl))) (RTk0 (s := s) ((up2_ne (by omega)).trans ((up2_ne (by omega)).trans hn)) (by rw [((up2_row (by omega)).trans ((up2_row (by omega)).trans rfl))]; exact hB) (((up2_ne (by omega)).trans ((up2_ne (by omega)).trans hs)).trans (by omega)) (((up2_ne (by omega)).trans up2_at).trans (by omega)) up2_at hV))
theorem c_X9_go {γ : GT} {d : Nat} {B : Nat → Int} {n : Nat} {t : Tk} {h : Nat → Nat → Int} {τ : List AC} {Post : Option AV → List AC → Prop} (hd : 2 ≤ d) (hn : h 123 17 = ((n : Nat) : Int)) (hm : n ≤ 96) (hB : ∀ k, k < n → h 137 k = B k) (hBr : ∀ k, 0 ≤ B k ∧ B k ≤ 255) (he : h 123 18 = ((t.2.2 : Nat) : Int)) (hw1 : (t.1 = 1 ∨ t.1 = 2) → h 123 22 = ((t.2.2 : Nat) : Int)) (hw2 : ¬ (t.1 = 1 ∨ t.1 = 2) → h 123 22 < ((t.2.2 : Nat) : Int)) (hte : t.2.2 ≤ n) (kQ : ∀ h', Fr [123] h h' → (∀ k, (k < 18 ∨ 22 < k) → h' 123 k = h 123 k) → RTk B n h' (nxt B n t) → Post none (mk h' τ)) : Cj γ mX9_go d 0 0 [vA 123] (mk h τ) Post := by
  refine c_of (by decide) (Nat.le_of_ble_eq_true rfl) ?_
  show Aj γ mX9_go d 0 0 Post 0 [(0, vA 123)] [] (mk h τ)
  have hsr := skp_rng (B := B) (n - t.2.2) t.2.2
  refine l_rS (h := h) (B := B) (n := n) (S := (skp B (n - t.2.2) t.2.2)) hd hn hm hB ?_ (n + 1) t.2.2 _ (by omega) (by omega) Fr_r he (fun k hk => rfl) rfl
  intro h2 hF2 e2 ek2
  obtain ⟨w, hw⟩ : ∃ w : Int, (w = 1 ↔ (t.1 = 1 ∨ t.1 = 2)) ∧ (w = 0 ∨ w = 1) := by
    by_cases c : t.1 = 1 ∨ t.1 = 2
    · exact ⟨1, ⟨fun _ => c, fun _ => rfl⟩, Or.inr rfl⟩
    · exact ⟨0, ⟨fun q => absurd q (by decide), fun q => absurd q c⟩, Or.inl rfl⟩
  refine l_r38 (h := h2) (B := B) (n := n) (s := (skp B (n - t.2.2) t.2.2)) (e := t.2.2) (w := w) (z := h 123 22) (u := nxt B n t) hd ((ek2 17 (by decide)).trans hn) hm (by rw [hF2 137 (by decide)]; exact hB) hBr e2 (ek2 22 (by decide)) (by omega) ?_ (nxt_w hw.1) (nxt_V hte).1 (fun h' a1 a2 a3 => kQ h' (Fr_t hF2 a1) (fun k hk => (a2 k hk).trans (ek2 k (by omega))) a3)
  rcases hw.2 with c | c
  · exact Or.inr ⟨c, hw2 (fun q => by have := hw.1.mpr q; omega)⟩
  · exact Or.inl ⟨c, hw1 (hw.1.mp c)⟩
