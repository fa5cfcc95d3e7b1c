theorem skp_e {B : Nat → Int} {n i : Nat} (h : n ≤ i) : skp B (n - i) i = i := by
  rw [show n - i = 0 by omega]; rfl
theorem skp_n {B : Nat → Int} {f i : Nat} (h : ¬ B i = 32) : skp B f i = i := by
  cases f with
  | zero => rfl
  | succ f => exact if_neg h
theorem skp_s {B : Nat → Int} {n i : Nat} (h : i < n) (hb : B i = 32) : skp B (n - i) i = skp B (n - (i + 1)) (i + 1) := by
  rw [show n - i = (n - (i + 1)) + 1 by omega]; exact if_pos hb
theorem rnn_e {B : Nat → Int} {q : Int} {n i : Nat} (h : n ≤ i) : rnn B q (n - i) i = i := by
  rw [show n - i = 0 by omega]; rfl
theorem rnn_n {B : Nat → Int} {q : Int} {f i : Nat} (h : ¬ soF (B i) = q) : rnn B q f i = i := by
  cases f with
  | zero => rfl
  | succ f => exact if_neg h
theorem rnn_s {B : Nat → Int} {q : Int} {n i : Nat} (h : i < n) (hb : soF (B i) = q) : rnn B q (n - i) i = rnn B q (n - (i + 1)) (i + 1) := by
  rw [show n - i = (n - (i + 1)) + 1 by omega]; exact if_pos hb
theorem c_byteB {γ : GT} {d : Nat} {q : Int} {p n : Nat} {B R : Nat → Int} {h : Nat → Nat → Int} {τ : List AC} {Post : Option AV → List AC → Prop} (hd : 1 ≤ d) (e1 : h 84 1 = ((n : Nat) : Int)) (e2 : h 85 = R) (hB : ∀ k, k < n → and32 (R k) 255 = B k) (hn : n ≤ 96) (hp : p < n) (hq : q = ((p : Nat) : Int)) (kQ : Post (some (vI (B p))) (mk h τ)) : Cj γ mX3_byteAt d 0 0 [vA 84, vI q] (mk h τ) Post := by
  subst hq
  refine c_X3_byteAt hd e1 rfl ⟨by omega, by omega⟩ ?_
  rw [if_pos ⟨by omega, by omega⟩, Int.toNat_natCast, e2, hB p hp]
  exact kQ
set_option maxHeartbeats 8000000 in
theorem l_goS {γ : GT} {d : Nat} {B : Nat → Int} {n S : Nat} {w : Int} {h : Nat → Nat → Int} {τ : List AC} {Post : Option AV → List AC → Prop} (hd : 2 ≤ d) (hn : h 84 1 = ((n : Nat) : Int)) (hm : n ≤ 96) (hB : ∀ k, k < n → and32 (h 85 k) 255 = B k) (kE : ∀ h', Fr [84] h h' → h' 84 2 = ((S : Nat) : Int) → (∀ k, k ≠ 2 → h' 84 k = h 84 k) → Aj γ mX3_goOn d 0 0 Post 67 [(1, vI w), (0, vA 84)] [] (mk h' τ)) :
    ∀ (f i : Nat) (h1 : Nat → Nat → Int), i ≤ n → n < i + f → Fr [84] h h1 → (h1 84 2 = ((i : Nat) : Int)) → (∀ k, k ≠ 2 → h1 84 k = h 84 k) → (skp B (n - i) i = S) → Aj γ mX3_goOn d 0 0 Post 30 [(1, vI w), (0, vA 84)] [] (mk h1 τ) := by
  intro f
  induction f with
  | zero => intro i h1  h1_ h2_; omega
  | succ f ih =>
    intro i h1  h1_ h2_ hF ia ib iv
    refine a_aload_n (j := 1) dX3_goOn_30 rfl rfl (Nat.le_of_ble_eq_true rfl) ?_
    refine b_get (a := 84) (z := ((i : Nat) : Int)) (t := 0) dX3_goOn_31 fwX3_64 (by decide) rfl (by decide) rfl rfl ia ?_
    refine a_aload_n (j := 1) dX3_goOn_34 rfl rfl (Nat.le_of_ble_eq_true rfl) ?_
    refine b_get (a := 84) (z := ((n : Nat) : Int)) (t := 0) dX3_goOn_35 fwX3_19 (by decide) rfl (by decide) rfl rfl ((ib 1 (by decide)).trans hn) ?_
    refine a_icmp_ge (tgt := 67) dX3_goOn_38 (by decide) (fun c38_1 => ?_) (fun c38_1 => ?_)
    · have hx : skp B (n - i) i = i := by first | exact skp_e (by omega) | exact skp_n (by omega)
      exact kE _ hF (ia.trans (by rw [← iv, hx])) ib
    · refine a_aload_n (j := 1) dX3_goOn_41 rfl rfl (Nat.le_of_ble_eq_true rfl) ?_
      refine a_aload_n (j := 1) dX3_goOn_42 rfl rfl (Nat.le_of_ble_eq_true rfl) ?_
      refine b_get (a := 84) (z := ((i : Nat) : Int)) (t := 0) dX3_goOn_43 fwX3_64 (by decide) rfl (by decide) rfl rfl ia ?_
      refine b_callV (d' := d - 1) (mc' := 0) (ms' := 0) (mc1 := 0) (ms1 := 0) (st := []) (b := 84) [vI ((i : Nat) : Int)] dX3_goOn_46 mwX3_byteAt lkX3_67 (by decide) rfl rc_X3 rfl (Nat.le_of_ble_eq_true rfl) (by omega) rfl rfl (c_byteB (p := i) (B := B) (n := n) (by omega) ((ib 1 (by decide)).trans hn) ((hF 85 (by decide)).trans rfl) hB hm (by omega) (by omega) ?_)
      show Aj γ mX3_goOn d 0 0 Post 49 [(1, vI w), (0, vA 84)] [vI (B i)] (mk h1 τ)
      refine a_bipush dX3_goOn_49 ⟨by decide, by decide, by decide⟩ ?_
      refine a_icmp_ne (tgt := 67) dX3_goOn_51 (by decide) (fun c51_2 => ?_) (fun c51_2 => ?_)
      · have hx : skp B (n - i) i = i := by first | exact skp_e (by omega) | exact skp_n (by omega)
        exact kE _ hF (ia.trans (by rw [← iv, hx])) ib
      · refine a_aload_n (j := 1) dX3_goOn_54 rfl rfl (Nat.le_of_ble_eq_true rfl) ?_
        refine a_dup dX3_goOn_55 (fun h => nomatch h) ?_
        refine b_get (a := 84) (z := ((i : Nat) : Int)) (t := 0) dX3_goOn_56 fwX3_64 (by decide) rfl (by decide) rfl rfl ia ?_
        refine a_iconst dX3_goOn_59 ⟨by decide, by decide⟩ ?_
        refine a_iadd (z := (((i : Nat) : Int) + 1)) dX3_goOn_60 (w_ok (by omega) (by omega)) ?_
        refine b_put (a := 84) (v := vI (((i : Nat) : Int) + 1)) dX3_goOn_61 pwX3_64 (fun h => nomatch h) (by decide) rfl (by decide) rfl rfl (fit_int _) ?_
        show Aj γ mX3_goOn d 0 0 Post 64 [(1, vI w), (0, vA 84)] [] (mk (up2 h1 84 2 (((i : Nat) : Int) + 1)) τ)
        refine a_goto (tgt := 30) dX3_goOn_64 (by decide) ?_
        refine a_lv (lv' := [(1, vI w), (0, vA 84)]) (by intro q hq; simp only [List.mem_cons, List.not_mem_nil, or_false] at hq ⊢; rcases hq with rfl | rfl <;> simp) (ih (i + 1) (up2 h1 84 2 (((i : Nat) : Int) + 1))  (by omega) (by omega) (Fr_u (by decide) (Fr_m (by decide) hF)) (up2_at.trans (by omega)) (fun k hk => (up2_ne (by omega)).trans (ib k hk)) ((skp_s (by omega) (by omega)).symm.trans iv))
set_option maxHeartbeats 8000000 in
theorem l_goW {γ : GT} {d : Nat} {B : Nat → Int} {n S : Nat} {w z q : Int} {h : Nat → Nat → Int} {τ : List AC} {Post : Option AV → List AC → Prop} (hd : 2 ≤ d) (hn : h 84 1 = ((n : Nat) : Int)) (hm : n ≤ 96) (hB : ∀ k, k < n → and32 (h 85 k) 255 = B k) (hq : h 84 4 = q) (kE : ∀ h', Fr [84] h h' → h' 84 3 = ((S : Nat) : Int) → (∀ k, k ≠ 3 → h' 84 k = h 84 k) → Aj γ mX3_goOn d 0 0 Post 200 [(2, vI z), (1, vI w), (0, vA 84)] [] (mk h' τ)) :
    ∀ (f i : Nat) (h1 : Nat → Nat → Int), i ≤ n → n < i + f → Fr [84] h h1 → (h1 84 3 = ((i : Nat) : Int)) → (∀ k, k ≠ 3 → h1 84 k = h 84 k) → (rnn B q (n - i) i = S) → Aj γ mX3_goOn d 0 0 Post 158 [(2, vI z), (1, vI w), (0, vA 84)] [] (mk h1 τ) := by
  intro f
  induction f with
  | zero => intro i h1  h1_ h2_; omega
  | succ f ih =>
    intro i h1  h1_ h2_ hF ia ib iv
    refine a_aload_n (j := 2) dX3_goOn_158 rfl rfl (Nat.le_of_ble_eq_true rfl) ?_
    refine b_get (a := 84) (z := ((i : Nat) : Int)) (t := 0) dX3_goOn_159 fwX3_27 (by decide) rfl (by decide) rfl rfl ia ?_
    refine a_aload_n (j := 2) dX3_goOn_162 rfl rfl (Nat.le_of_ble_eq_true rfl) ?_
    refine b_get (a := 84) (z := ((n : Nat) : Int)) (t := 0) dX3_goOn_163 fwX3_19 (by decide) rfl (by decide) rfl rfl ((ib 1 (by decide)).trans hn) ?_
    refine a_icmp_ge (tgt := 200) dX3_goOn_166 (by decide) (fun c166_1 => ?_) (fun c166_1 => ?_)
    · have hx : rnn B q (n - i) i = i := by first | exact rnn_e (by omega) | exact rnn_n (by omega)
      exact kE _ hF (ia.trans (by rw [← iv, hx])) ib
    · refine a_aload_n (j := 2) dX3_goOn_169 rfl rfl (Nat.le_of_ble_eq_true rfl) ?_
      refine a_aload_n (j := 2) dX3_goOn_170 rfl rfl (Nat.le_of_ble_eq_true rfl) ?_
      refine b_get (a := 84) (z := ((i : Nat) : Int)) (t := 0) dX3_goOn_171 fwX3_27 (by decide) rfl (by decide) rfl rfl ia ?_
      refine b_callV (d' := d - 1) (mc' := 0) (ms' := 0) (mc1 := 0) (ms1 := 0) (st := []) (b := 84) [vI ((i : Nat) : Int)] dX3_goOn_174 mwX3_byteAt lkX3_67 (by decide) rfl rc_X3 rfl (Nat.le_of_ble_eq_true rfl) (by omega) rfl rfl (c_byteB (p := i) (B := B) (n := n) (by omega) ((ib 1 (by decide)).trans hn) ((hF 85 (by decide)).trans rfl) hB hm (by omega) (by omega) ?_)
      show Aj γ mX3_goOn d 0 0 Post 177 [(2, vI z), (1, vI w), (0, vA 84)] [vI (B i)] (mk h1 τ)
      refine a_callS (d' := d - 1) (mc' := 0) (ms' := 0) (mc1 := 0) (ms1 := 0) (st := []) [vI (B i)] dX3_goOn_177 mwX3_sortOf lkX3_71 rfl (Nat.le_of_ble_eq_true rfl) (by omega) rfl rfl (c_X3_sortOf  (by omega)    ?_)
      show Aj γ mX3_goOn d 0 0 Post 180 [(2, vI z), (1, vI w), (0, vA 84)] [vI (soF (B i))] (mk h1 τ)
      refine a_aload_n (j := 2) dX3_goOn_180 rfl rfl (Nat.le_of_ble_eq_true rfl) ?_
      refine b_get (a := 84) (z := q) (t := 0) dX3_goOn_181 fwX3_30 (by decide) rfl (by decide) rfl rfl ((ib 4 (by decide)).trans hq) ?_
      refine a_icmp_ne (tgt := 200) dX3_goOn_184 (by decide) (fun c184_2 => ?_) (fun c184_2 => ?_)
      · have hx : rnn B q (n - i) i = i := by first | exact rnn_e (by omega) | exact rnn_n (by omega)
        exact kE _ hF (ia.trans (by rw [← iv, hx])) ib
      · refine a_aload_n (j := 2) dX3_goOn_187 rfl rfl (Nat.le_of_ble_eq_true rfl) ?_
        refine a_dup dX3_goOn_188 (fun h => nomatch h) ?_
        refine b_get (a := 84) (z := ((i : Nat) : Int)) (t := 0) dX3_goOn_189 fwX3_27 (by decide) rfl (by decide) rfl rfl ia ?_
        refine a_iconst dX3_goOn_192 ⟨by decide, by decide⟩ ?_
        refine a_iadd (z := (((i : Nat) : Int) + 1)) dX3_goOn_193 (w_ok (by omega) (by omega)) ?_
        refine b_put (a := 84) (v := vI (((i : Nat) : Int) + 1)) dX3_goOn_194 pwX3_27 (fun h => nomatch h) (by decide) rfl (by decide) rfl rfl (fit_int _) ?_
        show Aj γ mX3_goOn d 0 0 Post 197 [(2, vI z), (1, vI w), (0, vA 84)] [] (mk (up2 h1 84 3 (((i : Nat) : Int) + 1)) τ)
        refine a_goto (tgt := 158) dX3_goOn_197 (by decide) ?_
        refine a_lv (lv' := [(2, vI z), (1, vI w), (0, vA 84)]) (by intro q hq; simp only [List.mem_cons, List.not_mem_nil, or_false] at hq ⊢; rcases hq with rfl | rfl | rfl <;> simp) (ih (i + 1) (up2 h1 84 3 (((i : Nat) : Int) + 1))  (by omega) (by omega) (Fr_u (by decide) (Fr_m (by decide) hF)) (up2_at.trans (by omega)) (fun k hk => (up2_ne (by omega)).trans (ib k hk)) ((rnn_s (by omega) (by omega)).symm.trans iv))
set_option maxHeartbeats 8000000 in
theorem l_go67 {γ : GT} {d : Nat} {B : Nat → Int} {n s e : Nat} {w : Int} {t : Tk} {h : Nat → Nat → Int} {τ : List AC} {Post : Option AV → List AC → Prop} (hd : 2 ≤ d) (hn : h 84 1 = ((n : Nat) : Int)) (hm : n ≤ 96) (hB : ∀ k, k < n → and32 (h 85 k) 255 = B k) (hs : h 84 2 = ((s : Nat) : Int)) (he : h 84 3 = ((e : Nat) : Int)) (hes : e ≤ s ∧ s ≤ n) (hw : w = 0 ∨ w = 1) (ht : (if n ≤ s then (0, s, s) else if soF (B s) = 3 then (3, s, s + 1) else (if s = e ∧ w = 1 then 4 else soF (B s), s, rnn B (soF (B s)) (n - (s + 1)) (s + 1))) = t) (kQ : ∀ h', Fr [84] h h' → (∀ k, (k < 2 ∨ 5 ≤ k) → h' 84 k = h 84 k) → h' 84 2 = ((t.2.1 : Nat) : Int) → h' 84 3 = ((t.2.2 : Nat) : Int) → h' 84 4 = t.1 → Post none (mk h' τ)) : Aj γ mX3_goOn d 0 0 Post 67 [(1, vI w), (0, vA 84)] [] (mk h τ) := by
  refine a_aload_n (j := 1) dX3_goOn_67 rfl rfl (Nat.le_of_ble_eq_true rfl) ?_
  refine b_get (a := 84) (z := ((s : Nat) : Int)) (t := 0) dX3_goOn_68 fwX3_64 (by decide) rfl (by decide) rfl rfl hs ?_
  refine a_aload_n (j := 1) dX3_goOn_71 rfl rfl (Nat.le_of_ble_eq_true rfl) ?_
  refine b_get (a := 84) (z := ((e : Nat) : Int)) (t := 0) dX3_goOn_72 fwX3_27 (by decide) rfl (by decide) rfl rfl he ?_
  refine a_icmp_ne (tgt := 86) dX3_goOn_75 (by decide) (fun c75_1 => ?_) (fun c75_1 => ?_)
  · refine a_iconst dX3_goOn_86 ⟨by decide, by decide⟩ ?_
    refine a_istore_n (lv' := [(2, vI 0), (1, vI w), (0, vA 84)]) dX3_goOn_87 rfl (by decide) rfl ?_
    refine a_aload_n (j := 2) dX3_goOn_88 rfl rfl (Nat.le_of_ble_eq_true rfl) ?_
    refine a_aload_n (j := 2) dX3_goOn_89 rfl rfl (Nat.le_of_ble_eq_true rfl) ?_
    refine b_get (a := 84) (z := ((s : Nat) : Int)) (t := 0) dX3_goOn_90 fwX3_64 (by decide) rfl (by decide) rfl rfl hs ?_
    refine a_aload_n (j := 2) dX3_goOn_93 rfl rfl (Nat.le_of_ble_eq_true rfl) ?_
    refine b_get (a := 84) (z := ((n : Nat) : Int)) (t := 0) dX3_goOn_94 fwX3_19 (by decide) rfl (by decide) rfl rfl hn ?_
    refine a_icmp_lt (tgt := 104) dX3_goOn_97 (by decide) (fun c97_2 => ?_) (fun c97_2 => ?_)
    · refine a_aload_n (j := 2) dX3_goOn_104 rfl rfl (Nat.le_of_ble_eq_true rfl) ?_
      refine a_aload_n (j := 2) dX3_goOn_105 rfl rfl (Nat.le_of_ble_eq_true rfl) ?_
      refine b_get (a := 84) (z := ((s : Nat) : Int)) (t := 0) dX3_goOn_106 fwX3_64 (by decide) rfl (by decide) rfl rfl hs ?_
      refine b_callV (d' := d - 1) (mc' := 0) (ms' := 0) (mc1 := 0) (ms1 := 0) (st := [vA 84]) (b := 84) [vI ((s : Nat) : Int)] dX3_goOn_109 mwX3_byteAt lkX3_67 (by decide) rfl rc_X3 rfl (Nat.le_of_ble_eq_true rfl) (by omega) rfl rfl (c_byteB (p := s) (B := B) (n := n) (by omega) hn rfl hB hm (by omega) (by omega) ?_)
      show Aj γ mX3_goOn d 0 0 Post 112 [(2, vI 0), (1, vI w), (0, vA 84)] [vI (B s), vA 84] (mk h τ)
      refine a_callS (d' := d - 1) (mc' := 0) (ms' := 0) (mc1 := 0) (ms1 := 0) (st := [vA 84]) [vI (B s)] dX3_goOn_112 mwX3_sortOf lkX3_71 rfl (Nat.le_of_ble_eq_true rfl) (by omega) rfl rfl (c_X3_sortOf  (by omega)    ?_)
      show Aj γ mX3_goOn d 0 0 Post 115 [(2, vI 0), (1, vI w), (0, vA 84)] [vI (soF (B s)), vA 84] (mk h τ)
      refine b_put (a := 84) (v := vI (soF (B s))) dX3_goOn_115 pwX3_30 (fun h => nomatch h) (by decide) rfl (by decide) rfl rfl (fit_int _) ?_
      show Aj γ mX3_goOn d 0 0 Post 118 [(2, vI 0), (1, vI w), (0, vA 84)] [] (mk (up2 h 84 4 (soF (B s))) τ)
      have hso := soF_rng (B s)
      refine a_aload_n (j := 2) dX3_goOn_118 rfl rfl (Nat.le_of_ble_eq_true rfl) ?_
      refine a_aload_n (j := 2) dX3_goOn_119 rfl rfl (Nat.le_of_ble_eq_true rfl) ?_
      refine b_get (a := 84) (z := (soF (B s))) (t := 0) dX3_goOn_120 fwX3_30 (by decide) rfl (by decide) rfl rfl up2_at ?_
      refine a_if_ne (tgt := 133) dX3_goOn_123 (by decide) (fun c123_3 => ?_) (fun c123_3 => ?_)
      · refine a_aload_n (j := 2) dX3_goOn_133 rfl rfl (Nat.le_of_ble_eq_true rfl) ?_
        refine b_get (a := 84) (z := ((s : Nat) : Int)) (t := 0) dX3_goOn_134 fwX3_64 (by decide) rfl (by decide) rfl rfl ((up2_ne (by omega)).trans hs) ?_
        refine a_iconst dX3_goOn_137 ⟨by decide, by decide⟩ ?_
        refine a_iadd (z := (((s : Nat) : Int) + 1)) dX3_goOn_138 (w_ok (by omega) (by omega)) ?_
        refine b_put (a := 84) (v := vI (((s : Nat) : Int) + 1)) dX3_goOn_139 pwX3_27 (fun h => nomatch h) (by decide) rfl (by decide) rfl rfl (fit_int _) ?_
        show Aj γ mX3_goOn d 0 0 Post 142 [(2, vI 0), (1, vI w), (0, vA 84)] [] (mk (up2 (up2 h 84 4 (soF (B s))) 84 3 (((s : Nat) : Int) + 1)) τ)
        refine a_aload_n (j := 2) dX3_goOn_142 rfl rfl (Nat.le_of_ble_eq_true rfl) ?_
        refine b_get (a := 84) (z := (soF (B s))) (t := 0) dX3_goOn_143 fwX3_30 (by decide) rfl (by decide) rfl rfl ((up2_ne (by omega)).trans up2_at) ?_
        refine a_iconst dX3_goOn_146 ⟨by decide, by decide⟩ ?_
        refine a_icmp_eq (tgt := 158) dX3_goOn_147 (by decide) (fun c147_4 => ?_) (fun c147_4 => ?_)
        · by_cases hbad : soF (B s) = 0
          · exfalso; omega
          refine l_goW (h := (up2 (up2 h 84 4 (soF (B s))) 84 3 (((s : Nat) : Int) + 1))) (B := B) (n := n) (S := rnn B (soF (B s)) (n - (s + 1)) (s + 1)) (w := w) (z := 0) (q := soF (B s)) hd ((up2_ne (by omega)).trans ((up2_ne (by omega)).trans hn)) hm (by rw [((up2_row (by omega)).trans ((up2_row (by omega)).trans rfl))]; exact hB) ((up2_ne (by omega)).trans up2_at) ?_ (n + 1) (s + 1) _ (by omega) (by omega) Fr_r (up2_at.trans (by omega)) (fun k hk => rfl) rfl
          intro h3 hF3 e3 ek
          refine a_aload_n (j := 2) dX3_goOn_200 rfl rfl (Nat.le_of_ble_eq_true rfl) ?_
          refine a_iload_n (j := 0) dX3_goOn_201 rfl rfl ?_
          refine a_if_eq (tgt := 209) dX3_goOn_202 (by decide) (fun _ => ?_) (fun c => absurd c (by decide))
          refine a_aload_n (j := 2) dX3_goOn_209 rfl rfl (Nat.le_of_ble_eq_true rfl) ?_
          refine b_get (a := 84) (z := (soF (B s))) (t := 0) dX3_goOn_210 fwX3_30 (by decide) rfl (by decide) rfl rfl ((ek 4 (by decide)).trans ((up2_ne (by omega)).trans up2_at)) ?_
          refine b_put (a := 84) (v := vI (soF (B s))) dX3_goOn_213 pwX3_30 (fun h => nomatch h) (by decide) rfl (by decide) rfl rfl (fit_int _) ?_
          show Aj γ mX3_goOn d 0 0 Post 216 [(2, vI 0), (1, vI w), (0, vA 84)] [] (mk (up2 h3 84 4 (soF (B s))) τ)
          exact a_vret dX3_goOn_216 rfl (by first | (exfalso; omega) | (have et := ht.symm; rw [if_neg (by omega), if_neg (by omega)] at et; (first | rw [if_pos ⟨by omega, by omega⟩] at et | rw [if_neg (by omega)] at et); exact kQ _ (Fr_u (by decide) (Fr_t (Fr_u (by decide) (Fr_u (by decide) Fr_r)) (Fr_m (by decide) hF3))) (fun k hk => ((up2_ne (by omega)).trans ((ek k (by omega)).trans ((up2_ne (by omega)).trans ((up2_ne (by omega)).trans rfl))))) (((up2_ne (by omega)).trans ((ek 2 (by decide)).trans ((up2_ne (by omega)).trans ((up2_ne (by omega)).trans hs)))).trans (by rw [et] <;> rfl)) (((up2_ne (by omega)).trans e3).trans (by rw [et] <;> first | rfl | omega)) (up2_at.trans (by rw [et] <;> first | rfl | omega))))
        · refine a_aload_n (j := 2) dX3_goOn_150 rfl rfl (Nat.le_of_ble_eq_true rfl) ?_
          refine b_get (a := 84) (z := (soF (B s))) (t := 0) dX3_goOn_151 fwX3_30 (by decide) rfl (by decide) rfl rfl ((up2_ne (by omega)).trans up2_at) ?_
          refine a_iconst dX3_goOn_154 ⟨by decide, by decide⟩ ?_
          refine a_icmp_ne (tgt := 216) dX3_goOn_155 (by decide) (fun c155_5 => ?_) (fun c155_5 => ?_)
          · exact a_vret dX3_goOn_216 rfl (by first | (exfalso; omega) | (have et := ht.symm; (first | rw [if_pos (by omega)] at et | rw [if_neg (by omega), if_pos (by omega)] at et); exact kQ _ (Fr_u (by decide) (Fr_u (by decide) Fr_r)) (fun k hk => ((up2_ne (by omega)).trans ((up2_ne (by omega)).trans rfl))) (((up2_ne (by omega)).trans ((up2_ne (by omega)).trans hs)).trans (by rw [et] <;> rfl)) (up2_at.trans (by rw [et] <;> first | rfl | omega)) (((up2_ne (by omega)).trans up2_at).trans (by rw [et] <;> first | rfl | omega))))
          · by_cases hbad : soF (B s) = 0
            · exfalso; omega
            refine l_goW (h := (up2 (up2 h 84 4 (soF (B s))) 84 3 (((s : Nat) : Int) + 1))) (B := B) (n := n) (S := rnn B (soF (B s)) (n - (s + 1)) (s + 1)) (w := w) (z := 0) (q := soF (B s)) hd ((up2_ne (by omega)).trans ((up2_ne (by omega)).trans hn)) hm (by rw [((up2_row (by omega)).trans ((up2_row (by omega)).trans rfl))]; exact hB) ((up2_ne (by omega)).trans up2_at) ?_ (n + 1) (s + 1) _ (by omega) (by omega) Fr_r (up2_at.trans (by omega)) (fun k hk => rfl) rfl
            intro h3 hF3 e3 ek
            refine a_aload_n (j := 2) dX3_goOn_200 rfl rfl (Nat.le_of_ble_eq_true rfl) ?_
            refine a_iload_n (j := 0) dX3_goOn_201 rfl rfl ?_
            refine a_if_eq (tgt := 209) dX3_goOn_202 (by decide) (fun _ => ?_) (fun c => absurd c (by decide))
            refine a_aload_n (j := 2) dX3_goOn_209 rfl rfl (Nat.le_of_ble_eq_true rfl) ?_
            refine b_get (a := 84) (z := (soF (B s))) (t := 0) dX3_goOn_210 fwX3_30 (by decide) rfl (by decide) rfl rfl ((ek 4 (by decide)).trans ((up2_ne (by omega)).trans up2_at)) ?_
            refine b_put (a := 84) (v := vI (soF (B s))) dX3_goOn_213 pwX3_30 (fun h => nomatch h) (by decide) rfl (by decide) rfl rfl (fit_int _) ?_
            show Aj γ mX3_goOn d 0 0 Post 216 [(2, vI 0), (1, vI w), (0, vA 84)] [] (mk (up2 h3 84 4 (soF (B s))) τ)
            exact a_vret dX3_goOn_216 rfl (by first | (exfalso; omega) | (have et := ht.symm; rw [if_neg (by omega), if_neg (by omega)] at et; (first | rw [if_pos ⟨by omega, by omega⟩] at et | rw [if_neg (by omega)] at et); exact kQ _ (Fr_u (by decide) (Fr_t (Fr_u (by decide) (Fr_u (by decide) Fr_r)) (Fr_m (by decide) hF3))) (fun k hk => ((up2_ne (by omega)).trans ((ek k (by omega)).trans ((up2_ne (by omega)).trans ((up2_ne (by omega)).trans rfl))))) (((up2_ne (by omega)).trans ((ek 2 (by decide)).trans ((up2_ne (by omega)).trans ((up2_ne (by omega)).trans hs)))).trans (by rw [et] <;> rfl)) (((up2_ne (by omega)).trans e3).trans (by rw [et] <;> first | rfl | omega)) (up2_at.trans (by rw [et] <;> first | rfl | omega))))
      · refine a_aload_n (j := 2) dX3_goOn_126 rfl rfl (Nat.le_of_ble_eq_true rfl) ?_
        refine b_get (a := 84) (z := ((s : Nat) : Int)) (t := 0) dX3_goOn_127 fwX3_64 (by decide) rfl (by decide) rfl rfl ((up2_ne (by omega)).trans hs) ?_
        refine a_goto (tgt := 139) dX3_goOn_130 (by decide) ?_
        refine b_put (a := 84) (v := vI ((s : Nat) : Int)) dX3_goOn_139 pwX3_27 (fun h => nomatch h) (by decide) rfl (by decide) rfl rfl (fit_int _) ?_
        show Aj γ mX3_goOn d 0 0 Post 142 [(2, vI 0), (1, vI w), (0, vA 84)] [] (mk (up2 (up2 h 84 4 (soF (B s))) 84 3 ((s : Nat) : Int)) τ)
        refine a_aload_n (j := 2) dX3_goOn_142 rfl rfl (Nat.le_of_ble_eq_true rfl) ?_
        refine b_get (a := 84) (z := (soF (B s))) (t := 0) dX3_goOn_143 fwX3_30 (by decide) rfl (by decide) rfl rfl ((up2_ne (by omega)).trans up2_at) ?_
        refine a_iconst dX3_goOn_146 ⟨by decide, by decide⟩ ?_
        refine a_icmp_eq (tgt := 158) dX3_goOn_147 (by decide) (fun c147_6 => absurd c147_6 (by omega)) (fun c147_6 => ?_)
        refine a_aload_n (j := 2) dX3_goOn_150 rfl rfl (Nat.le_of_ble_eq_true rfl) ?_
        refine b_get (a := 84) (z := (soF (B s))) (t := 0) dX3_goOn_151 fwX3_30 (by decide) rfl (by decide) rfl rfl ((up2_ne (by omega)).trans up2_at) ?_
        refine a_iconst dX3_goOn_154 ⟨by decide, by decide⟩ ?_
        refine a_icmp_ne (tgt := 216) dX3_goOn_155 (by decide) (fun c155_7 => ?_) (fun c155_7 => absurd c155_7 (by omega))
        exact a_vret dX3_goOn_216 rfl (by first | (exfalso; omega) | (have et := ht.symm; (first | rw [if_pos (by omega)] at et | rw [if_neg (by omega), if_pos (by omega)] at et); exact kQ _ (Fr_u (by decide) (Fr_u (by decide) Fr_r)) (fun k hk => ((up2_ne (by omega)).trans ((up2_ne (by omega)).trans rfl))) (((up2_ne (by omega)).trans ((up2_ne (by omega)).trans hs)).trans (by rw [et] <;> rfl)) (up2_at.trans (by rw [et] <;> first | rfl | omega)) (((up2_ne (by omega)).trans up2_at).trans (by rw [et] <;> first | rfl | omega))))
    · refine a_iconst dX3_goOn_100 ⟨by decide, by decide⟩ ?_
      refine a_goto (tgt := 115) dX3_goOn_101 (by decide) ?_
      refine b_put (a := 84) (v := vI 0) dX3_goOn_115 pwX3_30 (fun h => nomatch h) (by decide) rfl (by decide) rfl rfl (fit_int _) ?_
      show Aj γ mX3_goOn d 0 0 Post 118 [(2, vI 0), (1, vI w), (0, vA 84)] [] (mk (up2 h 84 4 0) τ)
      have hso := soF_rng (B s)
      refine a_aload_n (j := 2) dX3_goOn_118 rfl rfl (Nat.le_of_ble_eq_true rfl) ?_
      refine a_aload_n (j := 2) dX3_goOn_119 rfl rfl (Nat.le_of_ble_eq_true rfl) ?_
      refine b_get (a := 84) (z := 0) (t := 0) dX3_goOn_120 fwX3_30 (by decide) rfl (by decide) rfl rfl up2_at ?_
      refine a_if_ne (tgt := 133) dX3_goOn_123 (by decide) (fun c => absurd c (by decide)) (fun _ => ?_)
      refine a_aload_n (j := 2) dX3_goOn_126 rfl rfl (Nat.le_of_ble_eq_true rfl) ?_
      refine b_get (a := 84) (z := ((s : Nat) : Int)) (t := 0) dX3_goOn_127 fwX3_64 (by decide) rfl (by decide) rfl rfl ((up2_ne (by omega)).trans hs) ?_
      refine a_goto (tgt := 139) dX3_goOn_130 (by decide) ?_
      refine b_put (a := 84) (v := vI ((s : Nat) : Int)) dX3_goOn_139 pwX3_27 (fun h => nomatch h) (by decide) rfl (by decide) rfl rfl (fit_int _) ?_
      show Aj γ mX3_goOn d 0 0 Post 142 [(2, vI 0), (1, vI w), (0, vA 84)] [] (mk (up2 (up2 h 84 4 0) 84 3 ((s : Nat) : Int)) τ)
      refine a_aload_n (j := 2) dX3_goOn_142 rfl rfl (Nat.le_of_ble_eq_true rfl) ?_
      refine b_get (a := 84) (z := 0) (t := 0) dX3_goOn_143 fwX3_30 (by decide) rfl (by decide) rfl rfl ((up2_ne (by omega)).trans up2_at) ?_
      refine a_iconst dX3_goOn_146 ⟨by decide, by decide⟩ ?_
      refine a_icmp_eq (tgt := 158) dX3_goOn_147 (by decide) (fun c => absurd c (by decide)) (fun _ => ?_)
      refine a_aload_n (j := 2) dX3_goOn_150 rfl rfl (Nat.le_of_ble_eq_true rfl) ?_
      refine b_get (a := 84) (z := 0) (t := 0) dX3_goOn_151 fwX3_30 (by decide) rfl (by decide) rfl rfl ((up2_ne (by omega)).trans up2_at) ?_
      refine a_iconst dX3_goOn_154 ⟨by decide, by decide⟩ ?_
      refine a_icmp_ne (tgt := 216) dX3_goOn_155 (by decide) (fun _ => ?_) (fun c => absurd c (by decide))
      exact a_vret dX3_goOn_216 rfl (by first | (exfalso; omega) | (have et := ht.symm; (first | rw [if_pos (by omega)] at et | rw [if_neg (by omega), if_pos (by omega)] at et); exact kQ _ (Fr_u (by decide) (Fr_u (by decide) Fr_r)) (fun k hk => ((up2_ne (by omega)).trans ((up2_ne (by omega)).trans rfl))) (((up2_ne (by omega)).trans ((up2_ne (by omega)).trans hs)).trans (by rw [et] <;> rfl)) (up2_at.trans (by rw [et] <;> first | rfl | omega)) (((up2_ne (by omega)).trans up2_at).trans (by rw [et] <;> first | rfl | omega))))
  · refine a_iload_n (j := 0) dX3_goOn_78 rfl rfl ?_
    refine a_if_eq (tgt := 86) dX3_goOn_79 (by decide) (fun c79_8 => ?_) (fun c79_8 => ?_)
    · refine a_iconst dX3_goOn_86 ⟨by decide, by decide⟩ ?_
      refine a_istore_n (lv' := [(2, vI 0), (1, vI w), (0, vA 84)]) dX3_goOn_87 rfl (by decide) rfl ?_
      refine a_aload_n (j := 2) dX3_goOn_88 rfl rfl (Nat.le_of_ble_eq_true rfl) ?_
      refine a_aload_n (j := 2) dX3_goOn_89 rfl rfl (Nat.le_of_ble_eq_true rfl) ?_
      refine b_get (a := 84) (z := ((s : Nat) : Int)) (t := 0) dX3_goOn_90 fwX3_64 (by decide) rfl (by decide) rfl rfl hs ?_
      refine a_aload_n (j := 2) dX3_goOn_93 rfl rfl (Nat.le_of_ble_eq_true rfl) ?_
      refine b_get (a := 84) (z := ((n : Nat) : Int)) (t := 0) dX3_goOn_94 fwX3_19 (by decide) rfl (by decide) rfl rfl hn ?_
      refine a_icmp_lt (tgt := 104) dX3_goOn_97 (by decide) (fun c97_9 => ?_) (fun c97_9 => ?_)
      · refine a_aload_n (j := 2) dX3_goOn_104 rfl rfl (Nat.le_of_ble_eq_true rfl) ?_
        refine a_aload_n (j := 2) dX3_goOn_105 rfl rfl (Nat.le_of_ble_eq_true rfl) ?_
        refine b_get (a := 84) (z := ((s : Nat) : Int)) (t := 0) dX3_goOn_106 fwX3_64 (by decide) rfl (by decide) rfl rfl hs ?_
        refine b_callV (d' := d - 1) (mc' := 0) (ms' := 0) (mc1 := 0) (ms1 := 0) (st := [vA 84]) (b := 84) [vI ((s : Nat) : Int)] dX3_goOn_109 mwX3_byteAt lkX3_67 (by decide) rfl rc_X3 rfl (Nat.le_of_ble_eq_true rfl) (by omega) rfl rfl (c_byteB (p := s) (B := B) (n := n) (by omega) hn rfl hB hm (by omega) (by omega) ?_)
        show Aj γ mX3_goOn d 0 0 Post 112 [(2, vI 0), (1, vI w), (0, vA 84)] [vI (B s), vA 84] (mk h τ)
        refine a_callS (d' := d - 1) (mc' := 0) (ms' := 0) (mc1 := 0) (ms1 := 0) (st := [vA 84]) [vI (B s)] dX3_goOn_112 mwX3_sortOf lkX3_71 rfl (Nat.le_of_ble_eq_true rfl) (by omega) rfl rfl (c_X3_sortOf  (by omega)    ?_)
        show Aj γ mX3_goOn d 0 0 Post 115 [(2, vI 0), (1, vI w), (0, vA 84)] [vI (soF (B s)), vA 84] (mk h τ)
        refine b_put (a := 84) (v := vI (soF (B s))) dX3_goOn_115 pwX3_30 (fun h => nomatch h) (by decide) rfl (by decide) rfl rfl (fit_int _) ?_
        show Aj γ mX3_goOn d 0 0 Post 118 [(2, vI 0), (1, vI w), (0, vA 84)] [] (mk (up2 h 84 4 (soF (B s))) τ)
        have hso := soF_rng (B s)
        refine a_aload_n (j := 2) dX3_goOn_118 rfl rfl (Nat.le_of_ble_eq_true rfl) ?_
        refine a_aload_n (j := 2) dX3_goOn_119 rfl rfl (Nat.le_of_ble_eq_true rfl) ?_
        refine b_get (a := 84) (z := (soF (B s))) (t := 0) dX3_goOn_120 fwX3_30 (by decide) rfl (by decide) rfl rfl up2_at ?_
        refine a_if_ne (tgt := 133) dX3_goOn_123 (by decide) (fun c123_10 => ?_) (fun c123_10 => ?_)
        · refine a_aload_n (j := 2) dX3_goOn_133 rfl rfl (Nat.le_of_ble_eq_true rfl) ?_
          refine b_get (a := 84) (z := ((s : Nat) : Int)) (t := 0) dX3_goOn_134 fwX3_64 (by decide) rfl (by decide) rfl rfl ((up2_ne (by omega)).trans hs) ?_
          refine a_iconst dX3_goOn_137 ⟨by decide, by decide⟩ ?_
          refine a_iadd (z := (((s : Nat) : Int) + 1)) dX3_goOn_138 (w_ok (by omega) (by omega)) ?_
          refine b_put (a := 84) (v := vI (((s : Nat) : Int) + 1)) dX3_goOn_139 pwX3_27 (fun h => nomatch h) (by decide) rfl (by decide) rfl rfl (fit_int _) ?_
          show Aj γ mX3_goOn d 0 0 Post 142 [(2, vI 0), (1, vI w), (0, vA 84)] [] (mk (up2 (up2 h 84 4 (soF (B s))) 84 3 (((s : Nat) : Int) + 1)) τ)
          refine a_aload_n (j := 2) dX3_goOn_142 rfl rfl (Nat.le_of_ble_eq_true rfl) ?_
          refine b_get (a := 84) (z := (soF (B s))) (t := 0) dX3_goOn_143 fwX3_30 (by decide) rfl (by decide) rfl rfl ((up2_ne (by omega)).trans up2_at) ?_
          refine a_iconst dX3_goOn_146 ⟨by decide, by decide⟩ ?_
          refine a_icmp_eq (tgt := 158) dX3_goOn_147 (by decide) (fun c147_11 => ?_) (fun c147_11 => ?_)
          · by_cases hbad : soF (B s) = 0
            · exfalso; omega
            refine l_goW (h := (up2 (up2 h 84 4 (soF (B s))) 84 3 (((s : Nat) : Int) + 1))) (B := B) (n := n) (S := rnn B (soF (B s)) (n - (s + 1)) (s + 1)) (w := w) (z := 0) (q := soF (B s)) hd ((up2_ne (by omega)).trans ((up2_ne (by omega)).trans hn)) hm (by rw [((up2_row (by omega)).trans ((up2_row (by omega)).trans rfl))]; exact hB) ((up2_ne (by omega)).trans up2_at) ?_ (n + 1) (s + 1) _ (by omega) (by omega) Fr_r (up2_at.trans (by omega)) (fun k hk => rfl) rfl
            intro h3 hF3 e3 ek
            refine a_aload_n (j := 2) dX3_goOn_200 rfl rfl (Nat.le_of_ble_eq_true rfl) ?_
            refine a_iload_n (j := 0) dX3_goOn_201 rfl rfl ?_
            refine a_if_eq (tgt := 209) dX3_goOn_202 (by decide) (fun _ => ?_) (fun c => absurd c (by decide))
            refine a_aload_n (j := 2) dX3_goOn_209 rfl rfl (Nat.le_of_ble_eq_true rfl) ?_
            refine b_get (a := 84) (z := (soF (B s))) (t := 0) dX3_goOn_210 fwX3_30 (by decide) rfl (by decide) rfl rfl ((ek 4 (by decide)).trans ((up2_ne (by omega)).trans up2_at)) ?_
            refine b_put (a := 84) (v := vI (soF (B s))) dX3_goOn_213 pwX3_30 (fun h => nomatch h) (by decide) rfl (by decide) rfl rfl (fit_int _) ?_
            show Aj γ mX3_goOn d 0 0 Post 216 [(2, vI 0), (1, vI w), (0, vA 84)] [] (mk (up2 h3 84 4 (soF (B s))) τ)
            exact a_vret dX3_goOn_216 rfl (by first | (exfalso; omega) | (have et := ht.symm; rw [if_neg (by omega), if_neg (by omega)] at et; (first | rw [if_pos ⟨by omega, by omega⟩] at et | rw [if_neg (by omega)] at et); exact kQ _ (Fr_u (by decide) (Fr_t (Fr_u (by decide) (Fr_u (by decide) Fr_r)) (Fr_m (by decide) hF3))) (fun k hk => ((up2_ne (by omega)).trans ((ek k (by omega)).trans ((up2_ne (by omega)).trans ((up2_ne (by omega)).trans rfl))))) (((up2_ne (by omega)).trans ((ek 2 (by decide)).trans ((up2_ne (by omega)).trans ((up2_ne (by omega)).trans hs)))).trans (by rw [et] <;> rfl)) (((up2_ne (by omega)).trans e3).trans (by rw [et] <;> first | rfl | omega)) (up2_at.trans (by rw [et] <;> first | rfl | omega))))
          · refine a_aload_n (j := 2) dX3_goOn_150 rfl rfl (Nat.le_of_ble_eq_true rfl) ?_
            refine b_get (a := 84) (z := (soF (B s))) (t := 0) dX3_goOn_151 fwX3_30 (by decide) rfl (by decide) rfl rfl ((up2_ne (by omega)).trans up2_at) ?_
            refine a_iconst dX3_goOn_154 ⟨by decide, by decide⟩ ?_
            refine a_icmp_ne (tgt := 216) dX3_goOn_155 (by decide) (fun c155_12 => ?_) (fun c155_12 => ?_)
            · exact a_vret dX3_goOn_216 rfl (by first | (exfalso; omega) | (have et := ht.symm; (first | rw [if_pos (by omega)] at et | rw [if_neg (by omega), if_pos (by omega)] at et); exact kQ _ (Fr_u (by decide) (Fr_u (by decide) Fr_r)) (fun k hk => ((up2_ne (by omega)).trans ((up2_ne (by omega)).trans rfl))) (((up2_ne (by omega)).trans ((up2_ne (by omega)).trans hs)).trans (by rw [et] <;> rfl)) (up2_at.trans (by rw [et] <;> first | rfl | omega)) (((up2_ne (by omega)).trans up2_at).trans (by rw [et] <;> first | rfl | omega))))
            · by_cases hbad : soF (B s) = 0
              · exfalso; omega
              refine l_goW (h := (up2 (up2 h 84 4 (soF (B s))) 84 3 (((s : Nat) : Int) + 1))) (B := B) (n := n) (S := rnn B (soF (B s)) (n - (s + 1)) (s + 1)) (w := w) (z := 0) (q := soF (B s)) hd ((up2_ne (by omega)).trans ((up2_ne (by omega)).trans hn)) hm (by rw [((up2_row (by omega)).trans ((up2_row (by omega)).trans rfl))]; exact hB) ((up2_ne (by omega)).trans up2_at) ?_ (n + 1) (s + 1) _ (by omega) (by omega) Fr_r (up2_at.trans (by omega)) (fun k hk => rfl) rfl
              intro h3 hF3 e3 ek
              refine a_aload_n (j := 2) dX3_goOn_200 rfl rfl (Nat.le_of_ble_eq_true rfl) ?_
              refine a_iload_n (j := 0) dX3_goOn_201 rfl rfl ?_
              refine a_if_eq (tgt := 209) dX3_goOn_202 (by decide) (fun _ => ?_) (fun c => absurd c (by decide))
              refine a_aload_n (j := 2) dX3_goOn_209 rfl rfl (Nat.le_of_ble_eq_true rfl) ?_
              refine b_get (a := 84) (z := (soF (B s))) (t := 0) dX3_goOn_210 fwX3_30 (by decide) rfl (by decide) rfl rfl ((ek 4 (by decide)).trans ((up2_ne (by omega)).trans up2_at)) ?_
              refine b_put (a := 84) (v := vI (soF (B s))) dX3_goOn_213 pwX3_30 (fun h => nomatch h) (by decide) rfl (by decide) rfl rfl (fit_int _) ?_
              show Aj γ mX3_goOn d 0 0 Post 216 [(2, vI 0), (1, vI w), (0, vA 84)] [] (mk (up2 h3 84 4 (soF (B s))) τ)
              exact a_vret dX3_goOn_216 rfl (by first | (exfalso; omega) | (have et := ht.symm; rw [if_neg (by omega), if_neg (by omega)] at et; (first | rw [if_pos ⟨by omega, by omega⟩] at et | rw [if_neg (by omega)] at et); exact kQ _ (Fr_u (by decide) (Fr_t (Fr_u (by decide) (Fr_u (by decide) Fr_r)) (Fr_m (by decide) hF3))) (fun k hk => ((up2_ne (by omega)).trans ((ek k (by omega)).trans ((up2_ne (by omega)).trans ((up2_ne (by omega)).trans rfl))))) (((up2_ne (by omega)).trans ((ek 2 (by decide)).trans ((up2_ne (by omega)).trans ((up2_ne (by omega)).trans hs)))).trans (by rw [et] <;> rfl)) (((up2_ne (by omega)).trans e3).trans (by rw [et] <;> first | rfl | omega)) (up2_at.trans (by rw [et] <;> first | rfl | omega))))
        · refine a_aload_n (j := 2) dX3_goOn_126 rfl rfl (Nat.le_of_ble_eq_true rfl) ?_
          refine b_get (a := 84) (z := ((s : Nat) : Int)) (t := 0) dX3_goOn_127 fwX3_64 (by decide) rfl (by decide) rfl rfl ((up2_ne (by omega)).trans hs) ?_
          refine a_goto (tgt := 139) dX3_goOn_130 (by decide) ?_
          refine b_put (a := 84) (v := vI ((s : Nat) : Int)) dX3_goOn_139 pwX3_27 (fun h => nomatch h) (by decide) rfl (by decide) rfl rfl (fit_int _) ?_
          show Aj γ mX3_goOn d 0 0 Post 142 [(2, vI 0), (1, vI w), (0, vA 84)] [] (mk (up2 (up2 h 84 4 (soF (B s))) 84 3 ((s : Nat) : Int)) τ)
          refine a_aload_n (j := 2) dX3_goOn_142 rfl rfl (Nat.le_of_ble_eq_true rfl) ?_
          refine b_get (a := 84) (z := (soF (B s))) (t := 0) dX3_goOn_143 fwX3_30 (by decide) rfl (by decide) rfl rfl ((up2_ne (by omega)).trans up2_at) ?_
          refine a_iconst dX3_goOn_146 ⟨by decide, by decide⟩ ?_
          refine a_icmp_eq (tgt := 158) dX3_goOn_147 (by decide) (fun c147_13 => absurd c147_13 (by omega)) (fun c147_13 => ?_)
          refine a_aload_n (j := 2) dX3_goOn_150 rfl rfl (Nat.le_of_ble_eq_true rfl) ?_
          refine b_get (a := 84) (z := (soF (B s))) (t := 0) dX3_goOn_151 fwX3_30 (by decide) rfl (by decide) rfl rfl ((up2_ne (by omega)).trans up2_at) ?_
          refine a_iconst dX3_goOn_154 ⟨by decide, by decide⟩ ?_
          refine a_icmp_ne (tgt := 216) dX3_goOn_155 (by decide) (fun c155_14 => ?_) (fun c155_14 => absurd c155_14 (by omega))
          exact a_vret dX3_goOn_216 rfl (by first | (exfalso; omega) | (have et := ht.symm; (first | rw [if_pos (by omega)] at et | rw [if_neg (by omega), if_pos (by omega)] at et); exact kQ _ (Fr_u (by decide) (Fr_u (by decide) Fr_r)) (fun k hk => ((up2_ne (by omega)).trans ((up2_ne (by omega)).trans rfl))) (((up2_ne (by omega)).trans ((up2_ne (by omega)).trans hs)).trans (by rw [et] <;> rfl)) (up2_at.trans (by rw [et] <;> first | rfl | omega)) (((up2_ne (by omega)).trans up2_at).trans (by rw [et] <;> first | rfl | omega))))
      · refine a_iconst dX3_goOn_100 ⟨by decide, by decide⟩ ?_
        refine a_goto (tgt := 115) dX3_goOn_101 (by decide) ?_
        refine b_put (a := 84) (v := vI 0) dX3_goOn_115 pwX3_30 (fun h => nomatch h) (by decide) rfl (by decide) rfl rfl (fit_int _) ?_
        show Aj γ mX3_goOn d 0 0 Post 118 [(2, vI 0), (1, vI w), (0, vA 84)] [] (mk (up2 h 84 4 0) τ)
        have hso := soF_rng (B s)
        refine a_aload_n (j := 2) dX3_goOn_118 rfl rfl (Nat.le_of_ble_eq_true rfl) ?_
        refine a_aload_n (j := 2) dX3_goOn_119 rfl rfl (Nat.le_of_ble_eq_true rfl) ?_
        refine b_get (a := 84) (z := 0) (t := 0) dX3_goOn_120 fwX3_30 (by decide) rfl (by decide) rfl rfl up2_at ?_
        refine a_if_ne (tgt := 133) dX3_goOn_123 (by decide) (fun c => absurd c (by decide)) (fun _ => ?_)
        refine a_aload_n (j := 2) dX3_goOn_126 rfl rfl (Nat.le_of_ble_eq_true rfl) ?_
        refine b_get (a := 84) (z := ((s : Nat) : Int)) (t := 0) dX3_goOn_127 fwX3_64 (by decide) rfl (by decide) rfl rfl ((up2_ne (by omega)).trans hs) ?_
        refine a_goto (tgt := 139) dX3_goOn_130 (by decide) ?_
        refine b_put (a := 84) (v := vI ((s : Nat) : Int)) dX3_goOn_139 pwX3_27 (fun h => nomatch h) (by decide) rfl (by decide) rfl rfl (fit_int _) ?_
        show Aj γ mX3_goOn d 0 0 Post 142 [(2, vI 0), (1, vI w), (0, vA 84)] [] (mk (up2 (up2 h 84 4 0) 84 3 ((s : Nat) : Int)) τ)
        refine a_aload_n (j := 2) dX3_goOn_142 rfl rfl (Nat.le_of_ble_eq_true rfl) ?_
        refine b_get (a := 84) (z := 0) (t := 0) dX3_goOn_143 fwX3_30 (by decide) rfl (by decide) rfl rfl ((up2_ne (by omega)).trans up2_at) ?_
        refine a_iconst dX3_goOn_146 ⟨by decide, by decide⟩ ?_
        refine a_icmp_eq (tgt := 158) dX3_goOn_147 (by decide) (fun c => absurd c (by decide)) (fun _ => ?_)
        refine a_aload_n (j := 2) dX3_goOn_150 rfl rfl (Nat.le_of_ble_eq_true rfl) ?_
        refine b_get (a := 84) (z := 0) (t := 0) dX3_goOn_151 fwX3_30 (by decide) rfl (by decide) rfl rfl ((up2_ne (by omega)).trans up2_at) ?_
        refine a_iconst dX3_goOn_154 ⟨by decide, by decide⟩ ?_
        refine a_icmp_ne (tgt := 216) dX3_goOn_155 (by decide) (fun _ => ?_) (fun c => absurd c (by decide))
        exact a_vret dX3_goOn_216 rfl (by first | (exfalso; omega) | (have et := ht.symm; (first | rw [if_pos (by omega)] at et | rw [if_neg (by omega), if_pos (by omega)] at et); exact kQ _ (Fr_u (by decide) (Fr_u (by decide) Fr_r)) (fun k hk => ((up2_ne (by omega)).trans ((up2_ne (by omega)).trans rfl))) (((up2_ne (by omega)).trans ((up2_ne (by omega)).trans hs)).trans (by rw [et] <;> rfl)) (up2_at.trans (by rw [et] <;> first | rfl | omega)) (((up2_ne (by omega)).trans up2_at).trans (by rw [et] <;> first | rfl | omega))))
    · refine a_iconst dX3_goOn_82 ⟨by decide, by decide⟩ ?_
      refine a_goto (tgt := 87) dX3_goOn_83 (by decide) ?_
      refine a_istore_n (lv' := [(2, vI 1), (1, vI w), (0, vA 84)]) dX3_goOn_87 rfl (by decide) rfl ?_
      refine a_aload_n (j := 2) dX3_goOn_88 rfl rfl (Nat.le_of_ble_eq_true rfl) ?_
      refine a_aload_n (j := 2) dX3_goOn_89 rfl rfl (Nat.le_of_ble_eq_true rfl) ?_
      refine b_get (a := 84) (z := ((s : Nat) : Int)) (t := 0) dX3_goOn_90 fwX3_64 (by decide) rfl (by decide) rfl rfl hs ?_
      refine a_aload_n (j := 2) dX3_goOn_93 rfl rfl (Nat.le_of_ble_eq_true rfl) ?_
      refine b_get (a := 84) (z := ((n : Nat) : Int)) (t := 0) dX3_goOn_94 fwX3_19 (by decide) rfl (by decide) rfl rfl hn ?_
      refine a_icmp_lt (tgt := 104) dX3_goOn_97 (by decide) (fun c97_15 => ?_) (fun c97_15 => ?_)
      · refine a_aload_n (j := 2) dX3_goOn_104 rfl rfl (Nat.le_of_ble_eq_true rfl) ?_
        refine a_aload_n (j := 2) dX3_goOn_105 rfl rfl (Nat.le_of_ble_eq_true rfl) ?_
        refine b_get (a := 84) (z := ((s : Nat) : Int)) (t := 0) dX3_goOn_106 fwX3_64 (by decide) rfl (by decide) rfl rfl hs ?_
        refine b_callV (d' := d - 1) (mc' := 0) (ms' := 0) (mc1 := 0) (ms1 := 0) (st := [vA 84]) (b := 84) [vI ((s : Nat) : Int)] dX3_goOn_109 mwX3_byteAt lkX3_67 (by decide) rfl rc_X3 rfl (Nat.le_of_ble_eq_true rfl) (by omega) rfl rfl (c_byteB (p := s) (B := B) (n := n) (by omega) hn rfl hB hm (by omega) (by omega) ?_)
        show Aj γ mX3_goOn d 0 0 Post 112 [(2, vI 1), (1, vI w), (0, vA 84)] [vI (B s), vA 84] (mk h τ)
        refine a_callS (d' := d - 1) (mc' := 0) (ms' := 0) (mc1 := 0) (ms1 := 0) (st := [vA 84]) [vI (B s)] dX3_goOn_112 mwX3_sortOf lkX3_71 rfl (Nat.le_of_ble_eq_true rfl) (by omega) rfl rfl (c_X3_sortOf  (by omega)    ?_)
        show Aj γ mX3_goOn d 0 0 Post 115 [(2, vI 1), (1, vI w), (0, vA 84)] [vI (soF (B s)), vA 84] (mk h τ)
        refine b_put (a := 84) (v := vI (soF (B s))) dX3_goOn_115 pwX3_30 (fun h => nomatch h) (by decide) rfl (by decide) rfl rfl (fit_int _) ?_
        show Aj γ mX3_goOn d 0 0 Post 118 [(2, vI 1), (1, vI w), (0, vA 84)] [] (mk (up2 h 84 4 (soF (B s))) τ)
        have hso := soF_rng (B s)
        refine a_aload_n (j := 2) dX3_goOn_118 rfl rfl (Nat.le_of_ble_eq_true rfl) ?_
        refine a_aload_n (j := 2) dX3_goOn_119 rfl rfl (Nat.le_of_ble_eq_true rfl) ?_
        refine b_get (a := 84) (z := (soF (B s))) (t := 0) dX3_goOn_120 fwX3_30 (by decide) rfl (by decide) rfl rfl up2_at ?_
        refine a_if_ne (tgt := 133) dX3_goOn_123 (by decide) (fun c123_16 => ?_) (fun c123_16 => ?_)
        · refine a_aload_n (j := 2) dX3_goOn_133 rfl rfl (Nat.le_of_ble_eq_true rfl) ?_
          refine b_get (a := 84) (z := ((s : Nat) : Int)) (t := 0) dX3_goOn_134 fwX3_64 (by decide) rfl (by decide) rfl rfl ((up2_ne (by omega)).trans hs) ?_
          refine a_iconst dX3_goOn_137 ⟨by decide, by decide⟩ ?_
          refine a_iadd (z := (((s : Nat) : Int) + 1)) dX3_goOn_138 (w_ok (by omega) (by omega)) ?_
          refine b_put (a := 84) (v := vI (((s : Nat) : Int) + 1)) dX3_goOn_139 pwX3_27 (fun h => nomatch h) (by decide) rfl (by decide) rfl rfl (fit_int _) ?_
          show Aj γ mX3_goOn d 0 0 Post 142 [(2, vI 1), (1, vI w), (0, vA 84)] [] (mk (up2 (up2 h 84 4 (soF (B s))) 84 3 (((s : Nat) : Int) + 1)) τ)
          refine a_aload_n (j := 2) dX3_goOn_142 rfl rfl (Nat.le_of_ble_eq_true rfl) ?_
          refine b_get (a := 84) (z := (soF (B s))) (t := 0) dX3_goOn_143 fwX3_30 (by decide) rfl (by decide) rfl rfl ((up2_ne (by omega)).trans up2_at) ?_
          refine a_iconst dX3_goOn_146 ⟨by decide, by decide⟩ ?_
          refine a_icmp_eq (tgt := 158) dX3_goOn_147 (by decide) (fun c147_17 => ?_) (fun c147_17 => ?_)
          · by_cases hbad : soF (B s) = 0
            · exfalso; omega
            refine l_goW (h := (up2 (up2 h 84 4 (soF (B s))) 84 3 (((s : Nat) : Int) + 1))) (B := B) (n := n) (S := rnn B (soF (B s)) (n - (s + 1)) (s + 1)) (w := w) (z := 1) (q := soF (B s)) hd ((up2_ne (by omega)).trans ((up2_ne (by omega)).trans hn)) hm (by rw [((up2_row (by omega)).trans ((up2_row (by omega)).trans rfl))]; exact hB) ((up2_ne (by omega)).trans up2_at) ?_ (n + 1) (s + 1) _ (by omega) (by omega) Fr_r (up2_at.trans (by omega)) (fun k hk => rfl) rfl
            intro h3 hF3 e3 ek
            refine a_aload_n (j := 2) dX3_goOn_200 rfl rfl (Nat.le_of_ble_eq_true rfl) ?_
            refine a_iload_n (j := 0) dX3_goOn_201 rfl rfl ?_
            refine a_if_eq (tgt := 209) dX3_goOn_202 (by decide) (fun c => absurd c (by decide)) (fun _ => ?_)
            refine a_iconst dX3_goOn_205 ⟨by decide, by decide⟩ ?_
            refine a_goto (tgt := 213) dX3_goOn_206 (by decide) ?_
            refine b_put (a := 84) (v := vI 4) dX3_goOn_213 pwX3_30 (fun h => nomatch h) (by decide) rfl (by decide) rfl rfl (fit_int _) ?_
            show Aj γ mX3_goOn d 0 0 Post 216 [(2, vI 1), (1, vI w), (0, vA 84)] [] (mk (up2 h3 84 4 4) τ)
            exact a_vret dX3_goOn_216 rfl (by first | (exfalso; omega) | (have et := ht.symm; rw [if_neg (by omega), if_neg (by omega)] at et; (first | rw [if_pos ⟨by omega, by omega⟩] at et | rw [if_neg (by omega)] at et); exact kQ _ (Fr_u (by decide) (Fr_t (Fr_u (by decide) (Fr_u (by decide) Fr_r)) (Fr_m (by decide) hF3))) (fun k hk => ((up2_ne (by omega)).trans ((ek k (by omega)).trans ((up2_ne (by omega)).trans ((up2_ne (by omega)).trans rfl))))) (((up2_ne (by omega)).trans ((ek 2 (by decide)).trans ((up2_ne (by omega)).trans ((up2_ne (by omega)).trans hs)))).trans (by rw [et] <;> rfl)) (((up2_ne (by omega)).trans e3).trans (by rw [et] <;> first | rfl | omega)) (up2_at.trans (by rw [et] <;> first | rfl | omega))))
          · refine a_aload_n (j := 2) dX3_goOn_150 rfl rfl (Nat.le_of_ble_eq_true rfl) ?_
            refine b_get (a := 84) (z := (soF (B s))) (t := 0) dX3_goOn_151 fwX3_30 (by decide) rfl (by decide) rfl rfl ((up2_ne (by omega)).trans up2_at) ?_
            refine a_iconst dX3_goOn_154 ⟨by decide, by decide⟩ ?_
            refine a_icmp_ne (tgt := 216) dX3_goOn_155 (by decide) (fun c155_18 => ?_) (fun c155_18 => ?_)
            · exact a_vret dX3_goOn_216 rfl (by first | (exfalso; omega) | (have et := ht.symm; (first | rw [if_pos (by omega)] at et | rw [if_neg (by omega), if_pos (by omega)] at et); exact kQ _ (Fr_u (by decide) (Fr_u (by decide) Fr_r)) (fun k hk => ((up2_ne (by omega)).trans ((up2_ne (by omega)).trans rfl))) (((up2_ne (by omega)).trans ((up2_ne (by omega)).trans hs)).trans (by rw [et] <;> rfl)) (up2_at.trans (by rw [et] <;> first | rfl | omega)) (((up2_ne (by omega)).trans up2_at).trans (by rw [et] <;> first | rfl | omega))))
            · by_cases hbad : soF (B s) = 0
              · exfalso; omega
              refine l_goW (h := (up2 (up2 h 84 4 (soF (B s))) 84 3 (((s : Nat) : Int) + 1))) (B := B) (n := n) (S := rnn B (soF (B s)) (n - (s + 1)) (s + 1)) (w := w) (z := 1) (q := soF (B s)) hd ((up2_ne (by omega)).trans ((up2_ne (by omega)).trans hn)) hm (by rw [((up2_row (by omega)).trans ((up2_row (by omega)).trans rfl))]; exact hB) ((up2_ne (by omega)).trans up2_at) ?_ (n + 1) (s + 1) _ (by omega) (by omega) Fr_r (up2_at.trans (by omega)) (fun k hk => rfl) rfl
              intro h3 hF3 e3 ek
              refine a_aload_n (j := 2) dX3_goOn_200 rfl rfl (Nat.le_of_ble_eq_true rfl) ?_
              refine a_iload_n (j := 0) dX3_goOn_201 rfl rfl ?_
              refine a_if_eq (tgt := 209) dX3_goOn_202 (by decide) (fun c => absurd c (by decide)) (fun _ => ?_)
              refine a_iconst dX3_goOn_205 ⟨by decide, by decide⟩ ?_
              refine a_goto (tgt := 213) dX3_goOn_206 (by decide) ?_
              refine b_put (a := 84) (v := vI 4) dX3_goOn_213 pwX3_30 (fun h => nomatch h) (by decide) rfl (by decide) rfl rfl (fit_int _) ?_
              show Aj γ mX3_goOn d 0 0 Post 216 [(2, vI 1), (1, vI w), (0, vA 84)] [] (mk (up2 h3 84 4 4) τ)
              exact a_vret dX3_goOn_216 rfl (by first | (exfalso; omega) | (have et := ht.symm; rw [if_neg (by omega), if_neg (by omega)] at et; (first | rw [if_pos ⟨by omega, by omega⟩] at et | rw [if_neg (by omega)] at et); exact kQ _ (Fr_u (by decide) (Fr_t (Fr_u (by decide) (Fr_u (by decide) Fr_r)) (Fr_m (by decide) hF3))) (fun k hk => ((up2_ne (by omega)).trans ((ek k (by omega)).trans ((up2_ne (by omega)).trans ((up2_ne (by omega)).trans rfl))))) (((up2_ne (by omega)).trans ((ek 2 (by decide)).trans ((up2_ne (by omega)).trans ((up2_ne (by omega)).trans hs)))).trans (by rw [et] <;> rfl)) (((up2_ne (by omega)).trans e3).trans (by rw [et] <;> first | rfl | omega)) (up2_at.trans (by rw [et] <;> first | rfl | omega))))
        · refine a_aload_n (j := 2) dX3_goOn_126 rfl rfl (Nat.le_of_ble_eq_true rfl) ?_
          refine b_get (a := 84) (z := ((s : Nat) : Int)) (t := 0) dX3_goOn_127 fwX3_64 (by decide) rfl (by decide) rfl rfl ((up2_ne (by omega)).trans hs) ?_
          refine a_goto (tgt := 139) dX3_goOn_130 (by decide) ?_
          refine b_put (a := 84) (v := vI ((s : Nat) : Int)) dX3_goOn_139 pwX3_27 (fun h => nomatch h) (by decide) rfl (by decide) rfl rfl (fit_int _) ?_
          show Aj γ mX3_goOn d 0 0 Post 142 [(2, vI 1), (1, vI w), (0, vA 84)] [] (mk (up2 (up2 h 84 4 (soF (B s))) 84 3 ((s : Nat) : Int)) τ)
          refine a_aload_n (j := 2) dX3_goOn_142 rfl rfl (Nat.le_of_ble_eq_true rfl) ?_
          refine b_get (a := 84) (z := (soF (B s))) (t := 0) dX3_goOn_143 fwX3_30 (by decide) rfl (by decide) rfl rfl ((up2_ne (by omega)).trans up2_at) ?_
          refine a_iconst dX3_goOn_146 ⟨by decide, by decide⟩ ?_
          refine a_icmp_eq (tgt := 158) dX3_goOn_147 (by decide) (fun c147_19 => absurd c147_19 (by omega)) (fun c147_19 => ?_)
          refine a_aload_n (j := 2) dX3_goOn_150 rfl rfl (Nat.le_of_ble_eq_true rfl) ?_
          refine b_get (a := 84) (z := (soF (B s))) (t := 0) dX3_goOn_151 fwX3_30 (by decide) rfl (by decide) rfl rfl ((up2_ne (by omega)).trans up2_at) ?_
          refine a_iconst dX3_goOn_154 ⟨by decide, by decide⟩ ?_
          refine a_icmp_ne (tgt := 216) dX3_goOn_155 (by decide) (fun c155_20 => ?_) (fun c155_20 => absurd c155_20 (by omega))
          exact a_vret dX3_goOn_216 rfl (by first | (exfalso; omega) | (have et := ht.symm; (first | rw [if_pos (by omega)] at et | rw [if_neg (by omega), if_pos (by omega)] at et); exact kQ _ (Fr_u (by decide) (Fr_u (by decide) Fr_r)) (fun k hk => ((up2_ne (by omega)).trans ((up2_ne (by omega)).trans rfl))) (((up2_ne (by omega)).trans ((up2_ne (by omega)).trans hs)).trans (by rw [et] <;> rfl)) (up2_at.trans (by rw [et] <;> first | rfl | omega)) (((up2_ne (by omega)).trans up2_at).trans (by rw [et] <;> first | rfl | omega))))
      · refine a_iconst dX3_goOn_100 ⟨by decide, by decide⟩ ?_
        refine a_goto (tgt := 115) dX3_goOn_101 (by decide) ?_
        refine b_put (a := 84) (v := vI 0) dX3_goOn_115 pwX3_30 (fun h => nomatch h) (by decide) rfl (by decide) rfl rfl (fit_int _) ?_
        show Aj γ mX3_goOn d 0 0 Post 118 [(2, vI 1), (1, vI w), (0, vA 84)] [] (mk (up2 h 84 4 0) τ)
        have hso := soF_rng (B s)
        refine a_aload_n (j := 2) dX3_goOn_118 rfl rfl (Nat.le_of_ble_eq_true rfl) ?_
        refine a_aload_n (j := 2) dX3_goOn_119 rfl rfl (Nat.le_of_ble_eq_true rfl) ?_
        refine b_get (a := 84) (z := 0) (t := 0) dX3_goOn_120 fwX3_30 (by decide) rfl (by decide) rfl rfl up2_at ?_
        refine a_if_ne (tgt := 133) dX3_goOn_123 (by decide) (fun c => absurd c (by decide)) (fun _ => ?_)
        refine a_aload_n (j := 2) dX3_goOn_126 rfl rfl (Nat.le_of_ble_eq_true rfl) ?_
        refine b_get (a := 84) (z := ((s : Nat) : Int)) (t := 0) dX3_goOn_127 fwX3_64 (by decide) rfl (by decide) rfl rfl ((up2_ne (by omega)).trans hs) ?_
        refine a_goto (tgt := 139) dX3_goOn_130 (by decide) ?_
        refine b_put (a := 84) (v := vI ((s : Nat) : Int)) dX3_goOn_139 pwX3_27 (fun h => nomatch h) (by decide) rfl (by decide) rfl rfl (fit_int _) ?_
        show Aj γ mX3_goOn d 0 0 Post 142 [(2, vI 1), (1, vI w), (0, vA 84)] [] (mk (up2 (up2 h 84 4 0) 84 3 ((s : Nat) : Int)) τ)
        refine a_aload_n (j := 2) dX3_goOn_142 rfl rfl (Nat.le_of_ble_eq_true rfl) ?_
        refine b_get (a := 84) (z := 0) (t := 0) dX3_goOn_143 fwX3_30 (by decide) rfl (by decide) rfl rfl ((up2_ne (by omega)).trans up2_at) ?_
        refine a_iconst dX3_goOn_146 ⟨by decide, by decide⟩ ?_
        refine a_icmp_eq (tgt := 158) dX3_goOn_147 (by decide) (fun c => absurd c (by decide)) (fun _ => ?_)
        refine a_aload_n (j := 2) dX3_goOn_150 rfl rfl (Nat.le_of_ble_eq_true rfl) ?_
        refine b_get (a := 84) (z := 0) (t := 0) dX3_goOn_151 fwX3_30 (by decide) rfl (by decide) rfl rfl ((up2_ne (by omega)).trans up2_at) ?_
        refine a_iconst dX3_goOn_154 ⟨by decide, by decide⟩ ?_
        refine a_icmp_ne (tgt := 216) dX3_goOn_155 (by decide) (fun _ => ?_) (fun c => absurd c (by decide))
        exact a_vret dX3_goOn_216 rfl (by first | (exfalso; omega) | (have et := ht.symm; (first | rw [if_pos (by omega)] at et | rw [if_neg (by omega), if_pos (by omega)] at et); exact kQ _ (Fr_u (by decide) (Fr_u (by decide) Fr_r)) (fun k hk => ((up2_ne (by omega)).trans ((up2_ne (by omega)).trans rfl))) (((up2_ne (by omega)).trans ((up2_ne (by omega)).trans hs)).trans (by rw [et] <;> rfl)) (up2_at.trans (by rw [et] <;> first | rfl | omega)) (((up2_ne (by omega)).trans up2_at).trans (by rw [et] <;> first | rfl | omega))))
theorem nxt_w {B : Nat → Int} {n : Nat} {t : Tk} {w : Int} (hw : w = 1 ↔ (t.1 = 1 ∨ t.1 = 2)) : (if n ≤ skp B (n - t.2.2) t.2.2 then ((0, skp B (n - t.2.2) t.2.2, skp B (n - t.2.2) t.2.2) : Tk) else if soF (B (skp B (n - t.2.2) t.2.2)) = 3 then (3, skp B (n - t.2.2) t.2.2, skp B (n - t.2.2) t.2.2 + 1) else (if skp B (n - t.2.2) t.2.2 = t.2.2 ∧ w = 1 then 4 else soF (B (skp B (n - t.2.2) t.2.2)), skp B (n - t.2.2) t.2.2, rnn B (soF (B (skp B (n - t.2.2) t.2.2))) (n - (skp B (n - t.2.2) t.2.2 + 1)) (skp B (n - t.2.2) t.2.2 + 1))) = nxt B n t := by
  unfold nxt
  simp only [hw]
set_option maxHeartbeats 8000000 in
theorem c_X3_goOn {γ : GT} {d : Nat} {B : Nat → Int} {n : Nat} {t : Tk} {h : Nat → Nat → Int} {τ : List AC} {Post : Option AV → List AC → Prop} (hd : 2 ≤ d) (hn : h 84 1 = ((n : Nat) : Int)) (hm : n ≤ 96) (hB : ∀ k, k < n → and32 (h 85 k) 255 = B k) (he : h 84 3 = ((t.2.2 : Nat) : Int)) (hk : h 84 4 = t.1) (hte : t.2.2 ≤ n) (kQ : ∀ h', Fr [84] h h' → (∀ k, (k < 2 ∨ 5 ≤ k) → h' 84 k = h 84 k) → h' 84 2 = (((nxt B n t).2.1 : Nat) : Int) → h' 84 3 = (((nxt B n t).2.2 : Nat) : Int) → h' 84 4 = (nxt B n t).1 → Post none (mk h' τ)) : Cj γ mX3_goOn d 0 0 [vA 84] (mk h τ) Post := by
  refine c_of (by decide) (Nat.le_of_ble_eq_true rfl) ?_
  show Aj γ mX3_goOn d 0 0 Post 0 [(0, vA 84)] [] (mk h τ)
  refine a_aload_n (j := 0) dX3_goOn_0 rfl rfl (Nat.le_of_ble_eq_true rfl) ?_
  refine b_get (a := 84) (z := t.1) (t := 0) dX3_goOn_1 fwX3_30 (by decide) rfl (by decide) rfl rfl hk ?_
  refine a_iconst dX3_goOn_4 ⟨by decide, by decide⟩ ?_
  refine a_icmp_eq (tgt := 16) dX3_goOn_5 (by decide) (fun c5_1 => ?_) (fun c5_1 => ?_)
  · refine a_iconst dX3_goOn_16 ⟨by decide, by decide⟩ ?_
    refine a_goto (tgt := 21) dX3_goOn_17 (by decide) ?_
    refine a_istore_n (lv' := [(1, vI 1), (0, vA 84)]) dX3_goOn_21 rfl (by decide) rfl ?_
    refine a_aload_n (j := 1) dX3_goOn_22 rfl rfl (Nat.le_of_ble_eq_true rfl) ?_
    refine a_aload_n (j := 1) dX3_goOn_23 rfl rfl (Nat.le_of_ble_eq_true rfl) ?_
    refine b_get (a := 84) (z := ((t.2.2 : Nat) : Int)) (t := 0) dX3_goOn_24 fwX3_27 (by decide) rfl (by decide) rfl rfl he ?_
    refine b_put (a := 84) (v := vI ((t.2.2 : Nat) : Int)) dX3_goOn_27 pwX3_64 (fun h => nomatch h) (by decide) rfl (by decide) rfl rfl (fit_int _) ?_
    show Aj γ mX3_goOn d 0 0 Post 30 [(1, vI 1), (0, vA 84)] [] (mk (up2 h 84 2 ((t.2.2 : Nat) : Int)) τ)
    have hsr := skp_rng (B := B) (n - t.2.2) t.2.2
    refine l_goS (h := (up2 h 84 2 ((t.2.2 : Nat) : Int))) (B := B) (n := n) (S := (skp B (n - t.2.2) t.2.2)) (w := 1) (by omega) ((up2_ne (by omega)).trans hn) hm (by rw [((up2_row (by omega)).trans rfl)]; exact hB) ?_ (n + 1) t.2.2 _ (by omega) (by omega) Fr_r up2_at (fun k hk => rfl) rfl
    intro h2 hF2 e2 ek2
    exact l_go67 (h := h2) (B := B) (n := n) (s := (skp B (n - t.2.2) t.2.2)) (e := t.2.2) (w := 1) (t := nxt B n t) (by omega) ((ek2 1 (by decide)).trans ((up2_ne (by omega)).trans hn)) hm (by rw [hF2 85 (by decide), ((up2_row (by omega)).trans rfl)]; exact hB) e2 ((ek2 3 (by decide)).trans ((up2_ne (by omega)).trans he)) (by omega) (by omega) (nxt_w (by omega)) (fun h' a1 a2 a3 a4 a5 => kQ h' (Fr_t (Fr_u (by decide) Fr_r) (Fr_t hF2 a1)) (fun k hk => (a2 k hk).trans ((ek2 k (by omega)).trans (up2_ne (by omega)))) a3 a4 a5)
  · refine a_aload_n (j := 0) dX3_goOn_8 rfl rfl (Nat.le_of_ble_eq_true rfl) ?_
    refine b_get (a := 84) (z := t.1) (t := 0) dX3_goOn_9 fwX3_30 (by decide) rfl (by decide) rfl rfl hk ?_
    refine a_iconst dX3_goOn_12 ⟨by decide, by decide⟩ ?_
    refine a_icmp_ne (tgt := 20) dX3_goOn_13 (by decide) (fun c13_2 => ?_) (fun c13_2 => ?_)
    · refine a_iconst dX3_goOn_20 ⟨by decide, by decide⟩ ?_
      refine a_istore_n (lv' := [(1, vI 0), (0, vA 84)]) dX3_goOn_21 rfl (by decide) rfl ?_
      refine a_aload_n (j := 1) dX3_goOn_22 rfl rfl (Nat.le_of_ble_eq_true rfl) ?_
      refine a_aload_n (j := 1) dX3_goOn_23 rfl rfl (Nat.le_of_ble_eq_true rfl) ?_
      refine b_get (a := 84) (z := ((t.2.2 : Nat) : Int)) (t := 0) dX3_goOn_24 fwX3_27 (by decide) rfl (by decide) rfl rfl he ?_
      refine b_put (a := 84) (v := vI ((t.2.2 : Nat) : Int)) dX3_goOn_27 pwX3_64 (fun h => nomatch h) (by decide) rfl (by decide) rfl rfl (fit_int _) ?_
      show Aj γ mX3_goOn d 0 0 Post 30 [(1, vI 0), (0, vA 84)] [] (mk (up2 h 84 2 ((t.2.2 : Nat) : Int)) τ)
      have hsr := skp_rng (B := B) (n - t.2.2) t.2.2
      refine l_goS (h := (up2 h 84 2 ((t.2.2 : Nat) : Int))) (B := B) (n := n) (S := (skp B (n - t.2.2) t.2.2)) (w := 0) (by omega) ((up2_ne (by omega)).trans hn) hm (by rw [((up2_row (by omega)).trans rfl)]; exact hB) ?_ (n + 1) t.2.2 _ (by omega) (by omega) Fr_r up2_at (fun k hk => rfl) rfl
      intro h2 hF2 e2 ek2
      exact l_go67 (h := h2) (B := B) (n := n) (s := (skp B (n - t.2.2) t.2.2)) (e := t.2.2) (w := 0) (t := nxt B n t) (by omega) ((ek2 1 (by decide)).trans ((up2_ne (by omega)).trans hn)) hm (by rw [hF2 85 (by decide), ((up2_row (by omega)).trans rfl)]; exact hB) e2 ((ek2 3 (by decide)).trans ((up2_ne (by omega)).trans he)) (by omega) (by omega) (nxt_w (by omega)) (fun h' a1 a2 a3 a4 a5 => kQ h' (Fr_t (Fr_u (by decide) Fr_r) (Fr_t hF2 a1)) (fun k hk => (a2 k hk).trans ((ek2 k (by omega)).trans (up2_ne (by omega)))) a3 a4 a5)
    · refine a_iconst dX3_goOn_16 ⟨by decide, by decide⟩ ?_
      refine a_goto (tgt := 21) dX3_goOn_17 (by decide) ?_
      refine a_istore_n (lv' := [(1, vI 1), (0, vA 84)]) dX3_goOn_21 rfl (by decide) rfl ?_
      refine a_aload_n (j := 1) dX3_goOn_22 rfl rfl (Nat.le_of_ble_eq_true rfl) ?_
      refine a_aload_n (j := 1) dX3_goOn_23 rfl rfl (Nat.le_of_ble_eq_true rfl) ?_
      refine b_get (a := 84) (z := ((t.2.2 : Nat) : Int)) (t := 0) dX3_goOn_24 fwX3_27 (by decide) rfl (by decide) rfl rfl he ?_
      refine b_put (a := 84) (v := vI ((t.2.2 : Nat) : Int)) dX3_goOn_27 pwX3_64 (fun h => nomatch h) (by decide) rfl (by decide) rfl rfl (fit_int _) ?_
      show Aj γ mX3_goOn d 0 0 Post 30 [(1, vI 1), (0, vA 84)] [] (mk (up2 h 84 2 ((t.2.2 : Nat) : Int)) τ)
      have hsr := skp_rng (B := B) (n - t.2.2) t.2.2
      refine l_goS (h := (up2 h 84 2 ((t.2.2 : Nat) : Int))) (B := B) (n := n) (S := (skp B (n - t.2.2) t.2.2)) (w := 1) (by omega) ((up2_ne (by omega)).trans hn) hm (by rw [((up2_row (by omega)).trans rfl)]; exact hB) ?_ (n + 1) t.2.2 _ (by omega) (by omega) Fr_r up2_at (fun k hk => rfl) rfl
      intro h2 hF2 e2 ek2
      exact l_go67 (h := h2) (B := B) (n := n) (s := (skp B (n - t.2.2) t.2.2)) (e := t.2.2) (w := 1) (t := nxt B n t) (by omega) ((ek2 1 (by decide)).trans ((up2_ne (by omega)).trans hn)) hm (by rw [hF2 85 (by decide), ((up2_row (by omega)).trans rfl)]; exact hB) e2 ((ek2 3 (by decide)).trans ((up2_ne (by omega)).trans he)) (by omega) (by omega) (nxt_w (by omega)) (fun h' a1 a2 a3 a4 a5 => kQ h' (Fr_t (Fr_u (by decide) Fr_r) (Fr_t hF2 a1)) (fun k hk => (a2 k hk).trans ((ek2 k (by omega)).trans (up2_ne (by omega)))) a3 a4 a5)
