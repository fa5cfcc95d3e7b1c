theorem LC_5 {γ : GT} {B : Nat → Int} {n K o k : Nat} (hP : PCt γ B n K o k) : LCt γ B n K 5 o k := by
  intro d h τ Post a t hd cs ha kT kF
  refine c_of (by decide) (Nat.le_of_ble_eq_true rfl) ?_
  show Aj γ mX3_readLevel d 0 0 Post 0 [(0, vA 84), (1, vI ((5 : Nat) : Int)), (2, vI ((o : Nat) : Int)), (3, vI ((k : Nat) : Int))] [] (mk h τ)
  refine a_iload_n (j := 1) dX3_readLevel_0 rfl rfl ?_
  refine a_iconst dX3_readLevel_1 ⟨by decide, by decide⟩ ?_
  refine a_icmp_lt (tgt := 12) dX3_readLevel_2 (by decide) (fun c2_1 => absurd c2_1 (by omega)) (fun c2_1 => ?_)
  refine a_aload_n (j := 0) dX3_readLevel_5 rfl rfl (Nat.le_of_ble_eq_true rfl) ?_
  refine a_iload_n (j := 2) dX3_readLevel_6 rfl rfl ?_
  refine a_iload_n (j := 3) dX3_readLevel_7 rfl rfl ?_
  refine b_callV (d' := d - 1) (mc' := 0) (ms' := 0) (mc1 := 0) (ms1 := 0) (st := []) (b := 84) [vI ((o : Nat) : Int), vI ((k : Nat) : Int)] dX3_readLevel_8 mwX3_readPiece lkX3_102 (by decide) rfl rc_X3 rfl (Nat.le_of_ble_eq_true rfl) (by omega) rfl rfl (hP (d - 1) h τ _ a t (by omega) cs ha (fun h1_ t1_ c1_ f1_ g1_ s1_ => ?_) (fun h1_ t1_ c1_ f1_ g1_ s1_ => ?_))
  · exact a_zret dX3_readLevel_11 rfl (Or.inr rfl) (kT _ _ _ f1_ g1_ s1_)
  · exact a_zret dX3_readLevel_11 rfl (Or.inl rfl) (kF _ _ _ f1_ g1_ s1_)
theorem sg_ok {z : Int} (hz : 0 ≤ z ∧ z ≤ 255) (h : ¬ sgF z = 0) : okX (20000 + z) ∧ cmX (20000 + z) = sgF z ∧ sgF z < 0 := by
  have q := sg_in h
  have e : 20000 + z - 20000 = z := by omega
  refine ⟨Or.inr (Or.inr ⟨by omega, by omega, by rw [e]; exact h⟩), ?_, (by have := sg_rng h; omega)⟩
  unfold cmX
  rw [if_neg (by omega), if_neg (by omega), e]
theorem jn_of {B : Nat → Int} {L : Nat} {t : Tk} (hL : L < 5) : (t.1 = 3 ∧ 0 ≤ ixS (6 + L) (B t.2.1)) ↔ jnT B L t := by
  rw [jn_ix hL]
  unfold jnT sgT
  constructor
  · rintro ⟨a, b, c⟩; rw [if_pos a]; exact ⟨b, c⟩
  · rintro ⟨b, c⟩
    by_cases a : t.1 = 3
    · rw [if_pos a] at b c; exact ⟨a, b, c⟩
    · rw [if_neg a] at b; exact absurd rfl b
theorem jn_s {B : Nat → Int} {L : Nat} {t : Tk} (h : jnT B L t) : t.1 = 3 ∧ sgT B t = sgF (B t.2.1) ∧ ¬ sgF (B t.2.1) = 0 := by
  have a := sg_k h.1
  have e : sgT B t = sgF (B t.2.1) := by unfold sgT; rw [if_pos a]
  exact ⟨a, e, by rw [← e]; exact h.1⟩
set_option maxHeartbeats 8000000 in
theorem l_lev {γ : GT} {d : Nat} {B : Nat → Int} {n K L o k : Nat} {τ : List AC} {Post : Option AV → List AC → Prop} (hm : n ≤ 96) (hBr : ∀ k, 0 ≤ B k ∧ B k ≤ 255) (hK3 : K < 3) (hL5 : L < 5) (hL2 : ¬ L = 2) (hd : 7 * (8 - o) + (8 - k) + (14 - L) ≤ d) (hL : LCt γ B n K (L + 1) o k) :
    ∀ (f i : Nat) (h : Nat → Nat → Int) (a : List Int) (t : Tk), 96 < i + f → i ≤ t.2.1 → CSt B n K h a t → a.length ≤ t.2.1 → (∀ (h' : Nat → Nat → Int) (t' : Tk) (cs : List Int), Fr [84, 86] h h' → GR B n ((K : Nat) : Int) (10 + L) o k t true t' cs → CSt B n K h' (a ++ cs) t' → Post (some (vI 1)) (mk h' τ)) → (∀ (h' : Nat → Nat → Int) (t' : Tk) (cs : List Int), Fr [84, 86] h h' → GR B n ((K : Nat) : Int) (10 + L) o k t false t' cs → CFt h' t' → Post (some (vI 0)) (mk h' τ)) → Aj γ mX3_readLevel d 0 0 Post 42 [(5, vI ((i : Nat) : Int)), (4, vI 96), (0, vA 84), (1, vI ((L : Nat) : Int)), (2, vI ((o : Nat) : Int)), (3, vI ((k : Nat) : Int))] [] (mk h τ) := by
  intro f
  induction f with
  | zero =>
    intro i h a t h1 h2 cs ha kT kF
    have := cs.V.1
    have := cs.V.2.1
    omega
  | succ f ih =>
    intro i h a t h1 h2 cs ha kT kF
    have hv1 := cs.V.1
    have hv2 := cs.V.2.1
    refine a_iload (j := 0) dX3_readLevel_42 rfl ?_
    refine a_iload (j := 1) dX3_readLevel_44 rfl ?_
    refine a_icmp_ge (tgt := 101) dX3_readLevel_46 (by decide) (fun c46_1 => ?_) (fun c46_1 => ?_)
    · refine a_iconst dX3_readLevel_101 ⟨by decide, by decide⟩ ?_
      exact a_zret dX3_readLevel_102 rfl (by first | exact Or.inl rfl | exact Or.inr rfl | omega) (kT _ t [] Fr_r (gr_lpE L o k t hL5 (fun q => by have := (jn_s q).1; have := cs.lt (by omega); omega)) (by rw [List.append_nil]; exact cs))
    · refine a_aload_n (j := 2) dX3_readLevel_49 rfl rfl (Nat.le_of_ble_eq_true rfl) ?_
      refine a_iload_n (j := 3) dX3_readLevel_50 rfl rfl ?_
      refine b_callV (d' := d - 1) (mc' := 0) (ms' := 0) (mc1 := 0) (ms1 := 0) (st := []) (b := 84) [vI ((L : Nat) : Int)] dX3_readLevel_51 mwX3_joinsAt lkX3_106 (by decide) rfl rc_X3 rfl (Nat.le_of_ble_eq_true rfl) (by omega) rfl rfl (c_joins (B := B) (n := n) (s := t.2.1) (L := L) (kd := t.1) (by omega) cs.1 hm cs.2.1 hBr cs.2.2.1 cs.2.2.2.2.1 (fun e => by have := cs.lt (by omega); omega) (by omega) (fun j2 => ?_) (fun j2 => ?_))
      · replace j2 := (jn_of (by omega)).mp j2
        have js2 := jn_s j2
        have jt2 := js2.1
        have jl2 := cs.lt (by omega)
        show Aj γ mX3_readLevel d 0 0 Post 54 [(5, vI ((i : Nat) : Int)), (4, vI 96), (0, vA 84), (1, vI ((L : Nat) : Int)), (2, vI ((o : Nat) : Int)), (3, vI ((k : Nat) : Int))] [vI 1] (mk h τ)
        refine a_if_eq (tgt := 101) dX3_readLevel_54 (by decide) (fun c => absurd c (by decide)) (fun _ => ?_)
        refine a_aload_n (j := 2) dX3_readLevel_57 rfl rfl (Nat.le_of_ble_eq_true rfl) ?_
        refine a_aload_n (j := 2) dX3_readLevel_58 rfl rfl (Nat.le_of_ble_eq_true rfl) ?_
        refine b_get (a := 84) (z := ((t.2.1 : Nat) : Int)) (t := 0) dX3_readLevel_59 fwX3_64 (by decide) rfl (by decide) rfl rfl cs.2.2.1 ?_
        refine b_callV (d' := d - 1) (mc' := 0) (ms' := 0) (mc1 := 0) (ms1 := 0) (st := []) (b := 84) [vI ((t.2.1 : Nat) : Int)] dX3_readLevel_62 mwX3_byteAt lkX3_67 (by decide) rfl rc_X3 rfl (Nat.le_of_ble_eq_true rfl) (by omega) rfl rfl (c_byteB (p := t.2.1) (B := B) (n := n) (by omega) cs.1 rfl cs.2.1 hm (by have := cs.lt (by omega); omega) rfl ?_)
        show Aj γ mX3_readLevel d 0 0 Post 65 [(5, vI ((i : Nat) : Int)), (4, vI 96), (0, vA 84), (1, vI ((L : Nat) : Int)), (2, vI ((o : Nat) : Int)), (3, vI ((k : Nat) : Int))] [vI (B t.2.1)] (mk h τ)
        refine a_istore (lv' := [(6, vI (B t.2.1)), (5, vI ((i : Nat) : Int)), (4, vI 96), (0, vA 84), (1, vI ((L : Nat) : Int)), (2, vI ((o : Nat) : Int)), (3, vI ((k : Nat) : Int))]) dX3_readLevel_65 (by decide) rfl ?_
        refine a_aload_n (j := 3) dX3_readLevel_67 rfl rfl (Nat.le_of_ble_eq_true rfl) ?_
        refine b_callV (d' := d - 1) (mc' := 0) (ms' := 0) (mc1 := 0) (ms1 := 0) (st := []) (b := 84) [] dX3_readLevel_68 mwX3_goOn lkX3_39 (by decide) rfl rc_X3 rfl (Nat.le_of_ble_eq_true rfl) (by omega) rfl rfl (c_goC (B := B) (n := n) (K := K) (a := a) (t := t) (by omega) hm cs (fun hg3 fg3 cg3 => ?_))
        have vg3 := nxt_V (B := B) (t := t) cs.V.2.1
        show Aj γ mX3_readLevel d 0 0 Post 71 [(6, vI (B t.2.1)), (5, vI ((i : Nat) : Int)), (4, vI 96), (0, vA 84), (1, vI ((L : Nat) : Int)), (2, vI ((o : Nat) : Int)), (3, vI ((k : Nat) : Int))] [] (mk hg3 τ)
        refine a_aload_n (j := 3) dX3_readLevel_71 rfl rfl (Nat.le_of_ble_eq_true rfl) ?_
        refine a_iload_n (j := 4) dX3_readLevel_72 rfl rfl ?_
        refine a_iconst dX3_readLevel_73 ⟨by decide, by decide⟩ ?_
        refine a_iadd (z := ((L + 1 : Nat) : Int)) dX3_readLevel_74 (w_okN (by omega) (by omega) (by omega)) ?_
        refine a_iload_n (j := 5) dX3_readLevel_75 rfl rfl ?_
        refine a_iload_n (j := 6) dX3_readLevel_76 rfl rfl ?_
        refine b_callV (d' := d - 1) (mc' := 0) (ms' := 0) (mc1 := 0) (ms1 := 0) (st := []) (b := 84) [vI ((L + 1 : Nat) : Int), vI ((o : Nat) : Int), vI ((k : Nat) : Int)] dX3_readLevel_77 mwX3_readLevel lkX3_50 (by decide) rfl rc_X3 rfl (Nat.le_of_ble_eq_true rfl) (by omega) rfl rfl (hL (d - 1) hg3 τ _ a (nxt B n t) (by omega) cg3 (by have := vg3.2; have := cs.lt (by omega); omega) (fun h4_ t4_ c4_ f4_ g4_ s4_ => ?_) (fun h4_ t4_ c4_ f4_ g4_ s4_ => ?_))
        · show Aj γ mX3_readLevel d 0 0 Post 80 [(6, vI (B t.2.1)), (5, vI ((i : Nat) : Int)), (4, vI 96), (0, vA 84), (1, vI ((L : Nat) : Int)), (2, vI ((o : Nat) : Int)), (3, vI ((k : Nat) : Int))] [vI 1] (mk h4_ τ)
          have w4_ := gr_w g4_ cg3.V
          have u4_ := w4_.2.2 rfl
          have l4_ := List.length_append (as := a) (bs := c4_)
          have z4_ : t4_.2.1 ≤ n := Nat.le_trans w4_.1.1 w4_.1.2.1
          have x4_ := cs.lt (by omega)
          have y4_ := vg3.2
          refine a_if_ne (tgt := 85) dX3_readLevel_80 (by decide) (fun _ => ?_) (fun c => absurd c (by decide))
          refine a_aload_n (j := 3) dX3_readLevel_85 rfl rfl (Nat.le_of_ble_eq_true rfl) ?_
          refine a_sipush dX3_readLevel_86 ⟨by decide, by decide, by decide⟩ ?_
          refine a_iload (j := 0) dX3_readLevel_89 rfl ?_
          refine a_iadd (z := (20000 + (B t.2.1))) dX3_readLevel_91 (w_ok (by have := hBr t.2.1; omega) (by have := hBr t.2.1; omega)) ?_
          have sk5 := sg_ok (hBr t.2.1) js2.2.2
          refine b_callV (d' := d - 1) (mc' := 0) (ms' := 0) (mc1 := 0) (ms1 := 0) (st := []) (b := 84) [vI (20000 + (B t.2.1))] dX3_readLevel_92 mwX3_put lkX3_110 (by decide) rfl rc_X3 rfl (Nat.le_of_ble_eq_true rfl) (by omega) rfl rfl (c_putS (B := B) (n := n) (K := K) (a := (a ++ c4_)) (t := t4_) (z := sgT B t) s4_ (by omega) sk5.1 (by rw [js2.2.1]; exact sk5.2.1) (by rw [js2.2.1]; exact sk5.2.2) (fun hp5 fp5 cp5 => ?_))
          show Aj γ mX3_readLevel d 0 0 Post 95 [(6, vI (B t.2.1)), (5, vI ((i : Nat) : Int)), (4, vI 96), (0, vA 84), (1, vI ((L : Nat) : Int)), (2, vI ((o : Nat) : Int)), (3, vI ((k : Nat) : Int))] [] (mk hp5 τ)
          refine a_iinc (j := 1) (z' := ((i + 1 : Nat) : Int)) (lv' := [(5, vI ((i + 1 : Nat) : Int)), (6, vI (B t.2.1)), (4, vI 96), (0, vA 84), (1, vI ((L : Nat) : Int)), (2, vI ((o : Nat) : Int)), (3, vI ((k : Nat) : Int))]) dX3_readLevel_95 rfl (w_okN (by omega) (by omega) (by omega)) (by decide) rfl ?_
          refine a_goto (tgt := 42) dX3_readLevel_98 (by decide) ?_
          have lp := List.length_append (as := (a ++ c4_)) (bs := [sgT B t])
          have lp1 : [sgT B t].length = 1 := rfl
          refine a_lv (lv' := [(5, vI (((i + 1) : Nat) : Int)), (4, vI 96), (0, vA 84), (1, vI ((L : Nat) : Int)), (2, vI ((o : Nat) : Int)), (3, vI ((k : Nat) : Int))]) (by intro q hq; simp only [List.mem_cons, List.not_mem_nil, or_false] at hq ⊢; rcases hq with rfl | rfl | rfl | rfl | rfl | rfl <;> simp) (ih (i + 1) hp5 ((a ++ c4_) ++ [sgT B t]) t4_ (by omega) (by omega) cp5 (by omega) (fun h' t' cs2 f2 g2 s2 => kT h' t' _ (Fr_t (Fr_t (Fr_t fg3 f4_) fp5) f2) (gr_lpS L o k t _ t' true _ cs2 hL5 hL2 j2 g4_ g2) ?_) (fun h' t' cs2 f2 g2 s2 => kF h' t' _ (Fr_t (Fr_t (Fr_t fg3 f4_) fp5) f2) (gr_lpS L o k t _ t' false _ cs2 hL5 hL2 j2 g4_ g2) s2))
          simpa only [List.append_assoc] using s2
        · show Aj γ mX3_readLevel d 0 0 Post 80 [(6, vI (B t.2.1)), (5, vI ((i : Nat) : Int)), (4, vI 96), (0, vA 84), (1, vI ((L : Nat) : Int)), (2, vI ((o : Nat) : Int)), (3, vI ((k : Nat) : Int))] [vI 0] (mk h4_ τ)
          refine a_if_ne (tgt := 85) dX3_readLevel_80 (by decide) (fun c => absurd c (by decide)) (fun _ => ?_)
          refine a_iconst dX3_readLevel_83 ⟨by decide, by decide⟩ ?_
          exact a_zret dX3_readLevel_84 rfl (by first | exact Or.inl rfl | exact Or.inr rfl | omega) (kF _ _ _ (Fr_t fg3 f4_) (gr_lpF L o k t _ _ hL5 j2 g4_) s4_)
      · replace j2 := fun e => j2 ((jn_of (by omega)).mpr e)
        show Aj γ mX3_readLevel d 0 0 Post 54 [(5, vI ((i : Nat) : Int)), (4, vI 96), (0, vA 84), (1, vI ((L : Nat) : Int)), (2, vI ((o : Nat) : Int)), (3, vI ((k : Nat) : Int))] [vI 0] (mk h τ)
        refine a_if_eq (tgt := 101) dX3_readLevel_54 (by decide) (fun _ => ?_) (fun c => absurd c (by decide))
        refine a_iconst dX3_readLevel_101 ⟨by decide, by decide⟩ ?_
        exact a_zret dX3_readLevel_102 rfl (by first | exact Or.inl rfl | exact Or.inr rfl | omega) (kT _ t [] Fr_r (gr_lpE L o k t hL5 j2) (by rw [List.append_nil]; exact cs))
set_option maxHeartbeats 8000000 in
theorem l_lev2 {γ : GT} {d : Nat} {B : Nat → Int} {n K o k : Nat} {τ : List AC} {Post : Option AV → List AC → Prop} (hm : n ≤ 96) (hBr : ∀ k, 0 ≤ B k ∧ B k ≤ 255) (hK3 : K < 3) (hd : 7 * (8 - o) + (8 - k) + 12 ≤ d) (hL : LCt γ B n K 3 o k) :
    ∀ (h : Nat → Nat → Int) (a : List Int) (t : Tk), CSt B n K h a t → a.length ≤ t.2.1 → (∀ (h' : Nat → Nat → Int) (t' : Tk) (cs : List Int), Fr [84, 86] h h' → GR B n ((K : Nat) : Int) 12 o k t true t' cs → CSt B n K h' (a ++ cs) t' → Post (some (vI 1)) (mk h' τ)) → (∀ (h' : Nat → Nat → Int) (t' : Tk) (cs : List Int), Fr [84, 86] h h' → GR B n ((K : Nat) : Int) 12 o k t false t' cs → CFt h' t' → Post (some (vI 0)) (mk h' τ)) → Aj γ mX3_readLevel d 0 0 Post 42 [(5, vI 0), (4, vI 1), (0, vA 84), (1, vI ((2 : Nat) : Int)), (2, vI ((o : Nat) : Int)), (3, vI ((k : Nat) : Int))] [] (mk h τ) := by
    intro h a t cs ha kT kF
    have hv1 := cs.V.1
    have hv2 := cs.V.2.1
    refine a_iload (j := 0) dX3_readLevel_42 rfl ?_
    refine a_iload (j := 1) dX3_readLevel_44 rfl ?_
    refine a_icmp_ge (tgt := 101) dX3_readLevel_46 (by decide) (fun c => absurd c (by decide)) (fun _ => ?_)
    refine a_aload_n (j := 2) dX3_readLevel_49 rfl rfl (Nat.le_of_ble_eq_true rfl) ?_
    refine a_iload_n (j := 3) dX3_readLevel_50 rfl rfl ?_
    refine b_callV (d' := d - 1) (mc' := 0) (ms' := 0) (mc1 := 0) (ms1 := 0) (st := []) (b := 84) [vI ((2 : Nat) : Int)] dX3_readLevel_51 mwX3_joinsAt lkX3_106 (by decide) rfl rc_X3 rfl (Nat.le_of_ble_eq_true rfl) (by omega) rfl rfl (c_joins (B := B) (n := n) (s := t.2.1) (L := 2) (kd := t.1) (by omega) cs.1 hm cs.2.1 hBr cs.2.2.1 cs.2.2.2.2.1 (fun e => by have := cs.lt (by omega); omega) (by omega) (fun j1 => ?_) (fun j1 => ?_))
    · replace j1 := (jn_of (by omega)).mp j1
      have js1 := jn_s j1
      have jt1 := js1.1
      have jl1 := cs.lt (by omega)
      show Aj γ mX3_readLevel d 0 0 Post 54 [(5, vI 0), (4, vI 1), (0, vA 84), (1, vI ((2 : Nat) : Int)), (2, vI ((o : Nat) : Int)), (3, vI ((k : Nat) : Int))] [vI 1] (mk h τ)
      refine a_if_eq (tgt := 101) dX3_readLevel_54 (by decide) (fun c => absurd c (by decide)) (fun _ => ?_)
      refine a_aload_n (j := 2) dX3_readLevel_57 rfl rfl (Nat.le_of_ble_eq_true rfl) ?_
      refine a_aload_n (j := 2) dX3_readLevel_58 rfl rfl (Nat.le_of_ble_eq_true rfl) ?_
      refine b_get (a := 84) (z := ((t.2.1 : Nat) : Int)) (t := 0) dX3_readLevel_59 fwX3_64 (by decide) rfl (by decide) rfl rfl cs.2.2.1 ?_
      refine b_callV (d' := d - 1) (mc' := 0) (ms' := 0) (mc1 := 0) (ms1 := 0) (st := []) (b := 84) [vI ((t.2.1 : Nat) : Int)] dX3_readLevel_62 mwX3_byteAt lkX3_67 (by decide) rfl rc_X3 rfl (Nat.le_of_ble_eq_true rfl) (by omega) rfl rfl (c_byteB (p := t.2.1) (B := B) (n := n) (by omega) cs.1 rfl cs.2.1 hm (by have := cs.lt (by omega); omega) rfl ?_)
      show Aj γ mX3_readLevel d 0 0 Post 65 [(5, vI 0), (4, vI 1), (0, vA 84), (1, vI ((2 : Nat) : Int)), (2, vI ((o : Nat) : Int)), (3, vI ((k : Nat) : Int))] [vI (B t.2.1)] (mk h τ)
      refine a_istore (lv' := [(6, vI (B t.2.1)), (5, vI 0), (4, vI 1), (0, vA 84), (1, vI ((2 : Nat) : Int)), (2, vI ((o : Nat) : Int)), (3, vI ((k : Nat) : Int))]) dX3_readLevel_65 (by decide) rfl ?_
      refine a_aload_n (j := 3) dX3_readLevel_67 rfl rfl (Nat.le_of_ble_eq_true rfl) ?_
      refine b_callV (d' := d - 1) (mc' := 0) (ms' := 0) (mc1 := 0) (ms1 := 0) (st := []) (b := 84) [] dX3_readLevel_68 mwX3_goOn lkX3_39 (by decide) rfl rc_X3 rfl (Nat.le_of_ble_eq_true rfl) (by omega) rfl rfl (c_goC (B := B) (n := n) (K := K) (a := a) (t := t) (by omega) hm cs (fun hg2 fg2 cg2 => ?_))
      have vg2 := nxt_V (B := B) (t := t) cs.V.2.1
      show Aj γ mX3_readLevel d 0 0 Post 71 [(6, vI (B t.2.1)), (5, vI 0), (4, vI 1), (0, vA 84), (1, vI ((2 : Nat) : Int)), (2, vI ((o : Nat) : Int)), (3, vI ((k : Nat) : Int))] [] (mk hg2 τ)
      refine a_aload_n (j := 3) dX3_readLevel_71 rfl rfl (Nat.le_of_ble_eq_true rfl) ?_
      refine a_iload_n (j := 4) dX3_readLevel_72 rfl rfl ?_
      refine a_iconst dX3_readLevel_73 ⟨by decide, by decide⟩ ?_
      refine a_iadd (z := ((2 + 1 : Nat) : Int)) dX3_readLevel_74 (w_okN (by omega) (by omega) (by omega)) ?_
      refine a_iload_n (j := 5) dX3_readLevel_75 rfl rfl ?_
      refine a_iload_n (j := 6) dX3_readLevel_76 rfl rfl ?_
      refine b_callV (d' := d - 1) (mc' := 0) (ms' := 0) (mc1 := 0) (ms1 := 0) (st := []) (b := 84) [vI ((2 + 1 : Nat) : Int), vI ((o : Nat) : Int), vI ((k : Nat) : Int)] dX3_readLevel_77 mwX3_readLevel lkX3_50 (by decide) rfl rc_X3 rfl (Nat.le_of_ble_eq_true rfl) (by omega) rfl rfl (hL (d - 1) hg2 τ _ a (nxt B n t) (by omega) cg2 (by have := vg2.2; have := cs.lt (by omega); omega) (fun h3_ t3_ c3_ f3_ g3_ s3_ => ?_) (fun h3_ t3_ c3_ f3_ g3_ s3_ => ?_))
      · show Aj γ mX3_readLevel d 0 0 Post 80 [(6, vI (B t.2.1)), (5, vI 0), (4, vI 1), (0, vA 84), (1, vI ((2 : Nat) : Int)), (2, vI ((o : Nat) : Int)), (3, vI ((k : Nat) : Int))] [vI 1] (mk h3_ τ)
        have w3_ := gr_w g3_ cg2.V
        have u3_ := w3_.2.2 rfl
        have l3_ := List.length_append (as := a) (bs := c3_)
        have z3_ : t3_.2.1 ≤ n := Nat.le_trans w3_.1.1 w3_.1.2.1
        have x3_ := cs.lt (by omega)
        have y3_ := vg2.2
        refine a_if_ne (tgt := 85) dX3_readLevel_80 (by decide) (fun _ => ?_) (fun c => absurd c (by decide))
        refine a_aload_n (j := 3) dX3_readLevel_85 rfl rfl (Nat.le_of_ble_eq_true rfl) ?_
        refine a_sipush dX3_readLevel_86 ⟨by decide, by decide, by decide⟩ ?_
        refine a_iload (j := 0) dX3_readLevel_89 rfl ?_
        refine a_iadd (z := (20000 + (B t.2.1))) dX3_readLevel_91 (w_ok (by have := hBr t.2.1; omega) (by have := hBr t.2.1; omega)) ?_
        have sk4 := sg_ok (hBr t.2.1) js1.2.2
        refine b_callV (d' := d - 1) (mc' := 0) (ms' := 0) (mc1 := 0) (ms1 := 0) (st := []) (b := 84) [vI (20000 + (B t.2.1))] dX3_readLevel_92 mwX3_put lkX3_110 (by decide) rfl rc_X3 rfl (Nat.le_of_ble_eq_true rfl) (by omega) rfl rfl (c_putS (B := B) (n := n) (K := K) (a := (a ++ c3_)) (t := t3_) (z := sgT B t) s3_ (by omega) sk4.1 (by rw [js1.2.1]; exact sk4.2.1) (by rw [js1.2.1]; exact sk4.2.2) (fun hp4 fp4 cp4 => ?_))
        show Aj γ mX3_readLevel d 0 0 Post 95 [(6, vI (B t.2.1)), (5, vI 0), (4, vI 1), (0, vA 84), (1, vI ((2 : Nat) : Int)), (2, vI ((o : Nat) : Int)), (3, vI ((k : Nat) : Int))] [] (mk hp4 τ)
        refine a_iinc (j := 1) (z' := 1) (lv' := [(5, vI 1), (6, vI (B t.2.1)), (4, vI 1), (0, vA 84), (1, vI ((2 : Nat) : Int)), (2, vI ((o : Nat) : Int)), (3, vI ((k : Nat) : Int))]) dX3_readLevel_95 rfl (w_ok (by omega) (by omega)) (by decide) rfl ?_
        refine a_goto (tgt := 42) dX3_readLevel_98 (by decide) ?_
        refine a_iload (j := 0) dX3_readLevel_42 rfl ?_
        refine a_iload (j := 2) dX3_readLevel_44 rfl ?_
        refine a_icmp_ge (tgt := 101) dX3_readLevel_46 (by decide) (fun _ => ?_) (fun c => absurd c (by decide))
        refine a_iconst dX3_readLevel_101 ⟨by decide, by decide⟩ ?_
        exact a_zret dX3_readLevel_102 rfl (by first | exact Or.inl rfl | exact Or.inr rfl | omega) (kT _ _ _ (Fr_t (Fr_t fg2 f3_) fp4) (gr_lpT o k t _ _ j1 g3_) (by rw [← List.append_assoc]; exact cp4))
      · show Aj γ mX3_readLevel d 0 0 Post 80 [(6, vI (B t.2.1)), (5, vI 0), (4, vI 1), (0, vA 84), (1, vI ((2 : Nat) : Int)), (2, vI ((o : Nat) : Int)), (3, vI ((k : Nat) : Int))] [vI 0] (mk h3_ τ)
        refine a_if_ne (tgt := 85) dX3_readLevel_80 (by decide) (fun c => absurd c (by decide)) (fun _ => ?_)
        refine a_iconst dX3_readLevel_83 ⟨by decide, by decide⟩ ?_
        exact a_zret dX3_readLevel_84 rfl (by first | exact Or.inl rfl | exact Or.inr rfl | omega) (kF _ _ _ (Fr_t fg2 f3_) (gr_lpF 2 o k t _ _ (by omega) j1 g3_) s3_)
    · replace j1 := fun e => j1 ((jn_of (by omega)).mpr e)
      show Aj γ mX3_readLevel d 0 0 Post 54 [(5, vI 0), (4, vI 1), (0, vA 84), (1, vI ((2 : Nat) : Int)), (2, vI ((o : Nat) : Int)), (3, vI ((k : Nat) : Int))] [vI 0] (mk h τ)
      refine a_if_eq (tgt := 101) dX3_readLevel_54 (by decide) (fun _ => ?_) (fun c => absurd c (by decide))
      refine a_iconst dX3_readLevel_101 ⟨by decide, by decide⟩ ?_
      exact a_zret dX3_readLevel_102 rfl (by first | exact Or.inl rfl | exact Or.inr rfl | omega) (kT _ t [] Fr_r (gr_lpE 2 o k t (by omega) j1) (by rw [List.append_nil]; exact cs))
set_option maxHeartbeats 8000000 in
theorem LC_n {γ : GT} {B : Nat → Int} {n K L o k : Nat} (hm : n ≤ 96) (hBr : ∀ k, 0 ≤ B k ∧ B k ≤ 255) (hK3 : K < 3) (hL5 : L < 5) (hL2 : ¬ L = 2) (hL : LCt γ B n K (L + 1) o k) : LCt γ B n K L o k := by
  intro d h τ Post a t hd cs ha kT kF
  refine c_of (by decide) (Nat.le_of_ble_eq_true rfl) ?_
  show Aj γ mX3_readLevel d 0 0 Post 0 [(0, vA 84), (1, vI ((L : Nat) : Int)), (2, vI ((o : Nat) : Int)), (3, vI ((k : Nat) : Int))] [] (mk h τ)
  refine a_iload_n (j := 1) dX3_readLevel_0 rfl rfl ?_
  refine a_iconst dX3_readLevel_1 ⟨by decide, by decide⟩ ?_
  refine a_icmp_lt (tgt := 12) dX3_readLevel_2 (by decide) (fun c2_1 => ?_) (fun c2_1 => absurd c2_1 (by omega))
  refine a_aload_n (j := 0) dX3_readLevel_12 rfl rfl (Nat.le_of_ble_eq_true rfl) ?_
  refine a_iload_n (j := 1) dX3_readLevel_13 rfl rfl ?_
  refine a_iconst dX3_readLevel_14 ⟨by decide, by decide⟩ ?_
  refine a_iadd (z := ((L + 1 : Nat) : Int)) dX3_readLevel_15 (w_okN (by omega) (by omega) (by omega)) ?_
  refine a_iload_n (j := 2) dX3_readLevel_16 rfl rfl ?_
  refine a_iload_n (j := 3) dX3_readLevel_17 rfl rfl ?_
  refine b_callV (d' := d - 1) (mc' := 0) (ms' := 0) (mc1 := 0) (ms1 := 0) (st := []) (b := 84) [vI ((L + 1 : Nat) : Int), vI ((o : Nat) : Int), vI ((k : Nat) : Int)] dX3_readLevel_18 mwX3_readLevel lkX3_50 (by decide) rfl rc_X3 rfl (Nat.le_of_ble_eq_true rfl) (by omega) rfl rfl (hL (d - 1) h τ _ a t (by omega) cs ha (fun h2_ t2_ c2_ f2_ g2_ s2_ => ?_) (fun h2_ t2_ c2_ f2_ g2_ s2_ => ?_))
  · show Aj γ mX3_readLevel d 0 0 Post 21 [(0, vA 84), (1, vI ((L : Nat) : Int)), (2, vI ((o : Nat) : Int)), (3, vI ((k : Nat) : Int))] [vI 1] (mk h2_ τ)
    have w2_ := gr_w g2_ cs.V
    have u2_ := w2_.2.2 rfl
    have l2_ := List.length_append (as := a) (bs := c2_)
    have z2_ : t2_.2.1 ≤ n := Nat.le_trans w2_.1.1 w2_.1.2.1
    refine a_if_ne (tgt := 26) dX3_readLevel_21 (by decide) (fun _ => ?_) (fun c => absurd c (by decide))
    refine a_iload_n (j := 1) dX3_readLevel_26 rfl rfl ?_
    refine a_iconst dX3_readLevel_27 ⟨by decide, by decide⟩ ?_
    refine a_icmp_ne (tgt := 35) dX3_readLevel_28 (by decide) (fun c28_3 => ?_) (fun c28_3 => absurd c28_3 (by omega))
    refine a_bipush dX3_readLevel_35 ⟨by decide, by decide, by decide⟩ ?_
    refine a_istore (lv' := [(4, vI 96), (0, vA 84), (1, vI ((L : Nat) : Int)), (2, vI ((o : Nat) : Int)), (3, vI ((k : Nat) : Int))]) dX3_readLevel_37 (by decide) rfl ?_
    refine a_iconst dX3_readLevel_39 ⟨by decide, by decide⟩ ?_
    refine a_istore (lv' := [(5, vI 0), (4, vI 96), (0, vA 84), (1, vI ((L : Nat) : Int)), (2, vI ((o : Nat) : Int)), (3, vI ((k : Nat) : Int))]) dX3_readLevel_40 (by decide) rfl ?_
    refine a_lv (lv' := [(5, vI ((0 : Nat) : Int)), (4, vI 96), (0, vA 84), (1, vI ((L : Nat) : Int)), (2, vI ((o : Nat) : Int)), (3, vI ((k : Nat) : Int))]) (by intro q hq; simp only [List.mem_cons, List.not_mem_nil, or_false] at hq ⊢; rcases hq with rfl | rfl | rfl | rfl | rfl | rfl <;> simp) (l_lev hm hBr hK3 hL5 hL2 hd hL 97 0 h2_ (a ++ c2_) t2_ (by omega) (by omega) s2_ (by omega) (fun h' t' cs2 f2 g2 s2 => kT h' t' _ (Fr_t f2_ f2) (gr_lev L o k t _ t' true _ cs2 (by omega) g2_ g2) (by rw [← List.append_assoc]; exact s2)) (fun h' t' cs2 f2 g2 s2 => kF h' t' _ (Fr_t f2_ f2) (gr_lev L o k t _ t' false _ cs2 (by omega) g2_ g2) s2))
  · show Aj γ mX3_readLevel d 0 0 Post 21 [(0, vA 84), (1, vI ((L : Nat) : Int)), (2, vI ((o : Nat) : Int)), (3, vI ((k : Nat) : Int))] [vI 0] (mk h2_ τ)
    refine a_if_ne (tgt := 26) dX3_readLevel_21 (by decide) (fun c => absurd c (by decide)) (fun _ => ?_)
    refine a_iconst dX3_readLevel_24 ⟨by decide, by decide⟩ ?_
    exact a_zret dX3_readLevel_25 rfl (by first | exact Or.inl rfl | exact Or.inr rfl | omega) (kF _ _ _ f2_ (gr_levF L o k t _ _ (by omega) g2_) s2_)
set_option maxHeartbeats 8000000 in
theorem LC_2 {γ : GT} {B : Nat → Int} {n K o k : Nat} (hm : n ≤ 96) (hBr : ∀ k, 0 ≤ B k ∧ B k ≤ 255) (hK3 : K < 3) (hL : LCt γ B n K 3 o k) : LCt γ B n K 2 o k := by
  intro d h τ Post a t hd cs ha kT kF
  refine c_of (by decide) (Nat.le_of_ble_eq_true rfl) ?_
  show Aj γ mX3_readLevel d 0 0 Post 0 [(0, vA 84), (1, vI ((2 : Nat) : Int)), (2, vI ((o : Nat) : Int)), (3, vI ((k : Nat) : Int))] [] (mk h τ)
  refine a_iload_n (j := 1) dX3_readLevel_0 rfl rfl ?_
  refine a_iconst dX3_readLevel_1 ⟨by decide, by decide⟩ ?_
  refine a_icmp_lt (tgt := 12) dX3_readLevel_2 (by decide) (fun c2_1 => ?_) (fun c2_1 => absurd c2_1 (by omega))
  refine a_aload_n (j := 0) dX3_readLevel_12 rfl rfl (Nat.le_of_ble_eq_true rfl) ?_
  refine a_iload_n (j := 1) dX3_readLevel_13 rfl rfl ?_
  refine a_iconst dX3_readLevel_14 ⟨by decide, by decide⟩ ?_
  refine a_iadd (z := ((2 + 1 : Nat) : Int)) dX3_readLevel_15 (w_okN (by omega) (by omega) (by omega)) ?_
  refine a_iload_n (j := 2) dX3_readLevel_16 rfl rfl ?_
  refine a_iload_n (j := 3) dX3_readLevel_17 rfl rfl ?_
  refine b_callV (d' := d - 1) (mc' := 0) (ms' := 0) (mc1 := 0) (ms1 := 0) (st := []) (b := 84) [vI ((2 + 1 : Nat) : Int), vI ((o : Nat) : Int), vI ((k : Nat) : Int)] dX3_readLevel_18 mwX3_readLevel lkX3_50 (by decide) rfl rc_X3 rfl (Nat.le_of_ble_eq_true rfl) (by omega) rfl rfl (hL (d - 1) h τ _ a t (by omega) cs ha (fun h2_ t2_ c2_ f2_ g2_ s2_ => ?_) (fun h2_ t2_ c2_ f2_ g2_ s2_ => ?_))
  · show Aj γ mX3_readLevel d 0 0 Post 21 [(0, vA 84), (1, vI ((2 : Nat) : Int)), (2, vI ((o : Nat) : Int)), (3, vI ((k : Nat) : Int))] [vI 1] (mk h2_ τ)
    have w2_ := gr_w g2_ cs.V
    have u2_ := w2_.2.2 rfl
    have l2_ := List.length_append (as := a) (bs := c2_)
    have z2_ : t2_.2.1 ≤ n := Nat.le_trans w2_.1.1 w2_.1.2.1
    refine a_if_ne (tgt := 26) dX3_readLevel_21 (by decide) (fun _ => ?_) (fun c => absurd c (by decide))
    refine a_iload_n (j := 1) dX3_readLevel_26 rfl rfl ?_
    refine a_iconst dX3_readLevel_27 ⟨by decide, by decide⟩ ?_
    refine a_icmp_ne (tgt := 35) dX3_readLevel_28 (by decide) (fun c28_3 => absurd c28_3 (by omega)) (fun c28_3 => ?_)
    refine a_iconst dX3_readLevel_31 ⟨by decide, by decide⟩ ?_
    refine a_goto (tgt := 37) dX3_readLevel_32 (by decide) ?_
    refine a_istore (lv' := [(4, vI 1), (0, vA 84), (1, vI ((2 : Nat) : Int)), (2, vI ((o : Nat) : Int)), (3, vI ((k : Nat) : Int))]) dX3_readLevel_37 (by decide) rfl ?_
    refine a_iconst dX3_readLevel_39 ⟨by decide, by decide⟩ ?_
    refine a_istore (lv' := [(5, vI 0), (4, vI 1), (0, vA 84), (1, vI ((2 : Nat) : Int)), (2, vI ((o : Nat) : Int)), (3, vI ((k : Nat) : Int))]) dX3_readLevel_40 (by decide) rfl ?_
    refine a_lv (lv' := [(5, vI 0), (4, vI 1), (0, vA 84), (1, vI ((2 : Nat) : Int)), (2, vI ((o : Nat) : Int)), (3, vI ((k : Nat) : Int))]) (by intro q hq; simp only [List.mem_cons, List.not_mem_nil, or_false] at hq ⊢; rcases hq with rfl | rfl | rfl | rfl | rfl | rfl <;> simp) (l_lev2 hm hBr hK3 (by omega) hL h2_ (a ++ c2_) t2_ s2_ (by omega) (fun h' t' cs2 f2 g2 s2 => kT h' t' _ (Fr_t f2_ f2) (gr_lev 2 o k t _ t' true _ cs2 (by omega) g2_ g2) (by rw [← List.append_assoc]; exact s2)) (fun h' t' cs2 f2 g2 s2 => kF h' t' _ (Fr_t f2_ f2) (gr_lev 2 o k t _ t' false _ cs2 (by omega) g2_ g2) s2))
  · show Aj γ mX3_readLevel d 0 0 Post 21 [(0, vA 84), (1, vI ((2 : Nat) : Int)), (2, vI ((o : Nat) : Int)), (3, vI ((k : Nat) : Int))] [vI 0] (mk h2_ τ)
    refine a_if_ne (tgt := 26) dX3_readLevel_21 (by decide) (fun c => absurd c (by decide)) (fun _ => ?_)
    refine a_iconst dX3_readLevel_24 ⟨by decide, by decide⟩ ?_
    exact a_zret dX3_readLevel_25 rfl (by first | exact Or.inl rfl | exact Or.inr rfl | omega) (kF _ _ _ f2_ (gr_levF 2 o k t _ _ (by omega) g2_) s2_)
theorem LC_all {γ : GT} {B : Nat → Int} {n K o k : Nat} (hm : n ≤ 96) (hBr : ∀ k, 0 ≤ B k ∧ B k ≤ 255) (hK3 : K < 3) (hP : PCt γ B n K o k) : LCt γ B n K 0 o k :=
  LC_n hm hBr hK3 (by decide) (by decide) (LC_n hm hBr hK3 (by decide) (by decide) (LC_2 hm hBr hK3 (LC_n hm hBr hK3 (by decide) (by decide) (LC_n hm hBr hK3 (by decide) (by decide) (LC_5 hP)))))
theorem PC_all {γ : GT} {B : Nat → Int} {n K : Nat} (hm : n ≤ 96) (hBr : ∀ k, 0 ≤ B k ∧ B k ≤ 255) (hK3 : K < 3) : ∀ (f o k : Nat), 9 * (8 - o) + (8 - k) < f → o ≤ 8 → k ≤ 8 → PCt γ B n K o k
  | 0, _, _, h, _, _ => absurd h (Nat.not_lt_zero _)
  | f + 1, o, k, h, ho, hk => PC_of hm hBr hK3 ho hk (fun q => PC_all hm hBr hK3 f o (k + 1) (by omega) ho (by omega)) (fun q => LC_all hm hBr hK3 (PC_all hm hBr hK3 f (o + 1) k (by omega) (by omega) hk))
theorem c_top {γ : GT} {B : Nat → Int} {n K : Nat} (hm : n ≤ 96) (hBr : ∀ k, 0 ≤ B k ∧ B k ≤ 255) (hK3 : K < 3) : LCt γ B n K 0 0 0 := LC_all hm hBr hK3 (PC_all hm hBr hK3 81 0 0 (by decide) (by decide) (by decide))
