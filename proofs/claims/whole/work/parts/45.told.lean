/-! THE RIDES TOLD -/
def ckR (T : Nat → Nat → Int) (J : Nat → Int) (G k : Nat) (z : Int) : Int × Int × Int := RDF T 1600 (J (153 + 2 * (k % G))) (J (153 + 2 * (k % G) + 1)) z 0
def ckF (T : Nat → Nat → Int) (J wr : Nat → Int) (G : Nat) (told : Int) : Nat → Nat → Int → Int
  | 0, k, _ => 2 * (k : Int)
  | f + 1, k, z => if ¬ (2 * (k : Int) < told ∧ wr (2 * k) = (ckR T J G k z).1) then 2 * (k : Int) else if ¬ (2 * (k : Int) + 1 < told ∧ wr (2 * k + 1) = (ckR T J G k z).2.1) then 2 * (k : Int) + 1 else ckF T J wr G told f (k + 1) (ckR T J G k z).2.2
theorem ck_a {T : Nat → Nat → Int} {J wr : Nat → Int} {G f k : Nat} {told z e c z' : Int} (hr : (e, c, z') = ckR T J G k z) (h : ¬ (2 * (k : Int) < told ∧ wr (2 * k) = e)) : ckF T J wr G told (f + 1) k z = 2 * (k : Int) := by
  show (if ¬ (2 * (k : Int) < told ∧ wr (2 * k) = (ckR T J G k z).1) then _ else _) = _
  rw [← hr]; exact if_pos h
theorem ck_b {T : Nat → Nat → Int} {J wr : Nat → Int} {G f k : Nat} {told z e c z' : Int} (hr : (e, c, z') = ckR T J G k z) (h : 2 * (k : Int) < told ∧ wr (2 * k) = e) (h2 : ¬ (2 * (k : Int) + 1 < told ∧ wr (2 * k + 1) = c)) : ckF T J wr G told (f + 1) k z = 2 * (k : Int) + 1 := by
  show (if ¬ (2 * (k : Int) < told ∧ wr (2 * k) = (ckR T J G k z).1) then _ else if ¬ (2 * (k : Int) + 1 < told ∧ wr (2 * k + 1) = (ckR T J G k z).2.1) then _ else _) = _
  rw [← hr, if_neg (fun q => q h)]; exact if_pos h2
theorem ck_c {T : Nat → Nat → Int} {J wr : Nat → Int} {G f k : Nat} {told z e c z' : Int} (hr : (e, c, z') = ckR T J G k z) (h : 2 * (k : Int) < told ∧ wr (2 * k) = e) (h2 : 2 * (k : Int) + 1 < told ∧ wr (2 * k + 1) = c) : ckF T J wr G told (f + 1) k z = ckF T J wr G told f (k + 1) z' := by
  show (if ¬ (2 * (k : Int) < told ∧ wr (2 * k) = (ckR T J G k z).1) then _ else if ¬ (2 * (k : Int) + 1 < told ∧ wr (2 * k + 1) = (ckR T J G k z).2.1) then _ else ckF T J wr G told f (k + 1) (ckR T J G k z).2.2) = _
  rw [← hr, if_neg (fun q => q h), if_neg (fun q => q h2)]
theorem modS {i G : Nat} (hG : 0 < G) : (i % G + 1 < G → (i + 1) % G = i % G + 1) ∧ (¬ i % G + 1 < G → (i + 1) % G = 0) := by
  have h1 : i + 1 = G * (i / G) + (i % G + 1) := by have := Nat.div_add_mod i G; omega
  have e0 : (G * (i / G) + (i % G + 1)) % G = (i % G + 1) % G := Nat.mul_add_mod _ _ _
  rw [← h1] at e0
  have h2 := Nat.mod_lt i hG
  constructor
  · intro h; have e := e0
    rw [e, Nat.mod_eq_of_lt h]
  · intro h; have e := e0
    rw [e, show i % G + 1 = G by omega, Nat.mod_self]
set_option maxHeartbeats 8000000 in
theorem l_right {γ : GT} {d : Nat} {T : Nat → Nat → Int} {J wr : Nat → Int} {G n : Nat} {told R : Int} {h : Nat → Nat → Int} {τ : List AC} {Post : Option AV → List AC → Prop} (hd : 6 ≤ d) (hT : tOK T) (hTT : TT h T) (hk0 : h 78 0 = 0) (hCH : CHp h 78 0 T (plT T 0)) (hg9 : h 32 9 = T 0 0) (hR : WR h τ 32 J) (hX : NX J) (hG : J 8 = ((G : Nat) : Int)) (hG0 : 0 < G) (hn : n ≤ 30) (htold : 0 ≤ told ∧ told ≤ 60) (hwr : h 89 = wr) (kQ : ∀ h' z', Fr [0, 32, 78] h h' → (∀ k, k ≠ 8 → h' 0 k = h 0 k) → (∀ k, k ≠ 15 → h' 32 k = h 32 k) → h' 32 15 = z' → (∀ k, k ≠ 3 → h' 78 k = h 78 k) → Post (some (vI R)) (mk h' τ)) :
    ∀ (f i : Nat) (z : Int) (h1 : Nat → Nat → Int), i + f = n → Fr [0, 32, 78] h h1 → (∀ k, k ≠ 8 → h1 0 k = h 0 k) → (∀ k, k ≠ 15 → h1 32 k = h 32 k) → h1 32 15 = z → (∀ k, k ≠ 3 → h1 78 k = h 78 k) → R = ckF T J wr G told f i z → Aj γ mX8_rightAhead d 0 0 Post 5 [(4, vI ((i : Nat) : Int)), (3, vI (((i % G) : Nat) : Int)), (0, vA 0), (1, vI ((n : Nat) : Int)), (2, vI told)] [] (mk h1 τ) := by
  intro f
  induction f with
  | zero =>
    intro i z h1 hif hF i0 iw iz ib hR'
    have h3_ := hX.1.1.2.2.2.1
    have hx8 := hX.2.2.2.1
    obtain ⟨g, hg⟩ : ∃ g : Nat, g = i % G := ⟨_, rfl⟩
    have hgl := Nat.mod_lt i hG0
    rw [← hg]
    rw [← hg] at hgl
    have hgj := hX.2.2.2.2 g (by omega)
    have hw1 : wr (1 + 2 * i) = wr (2 * i + 1) := by rw [Nat.add_comm]
    refine a_iload (j := 0) dX8_rightAhead_5 rfl ?_
    refine a_iload_n (j := 3) dX8_rightAhead_7 rfl rfl ?_
    refine a_icmp_ge (tgt := 128) dX8_rightAhead_8 (by decide) (fun c8_1 => ?_) (fun c8_1 => absurd c8_1 (by omega))
    refine a_iconst dX8_rightAhead_128 ⟨by decide, by decide⟩ ?_
    refine a_iload_n (j := 3) dX8_rightAhead_129 rfl rfl ?_
    refine a_imul (z := (2 * ((n : Nat) : Int))) dX8_rightAhead_130 (w_ok (by omega) (by omega)) ?_
    exact a_iret dX8_rightAhead_131 rfl (post_v (kQ h1 z hF i0 iw iz ib) (by rw [hR']; show 2 * ((i : Nat) : Int) = _; omega))
  | succ f ih =>
    intro i z h1 hif hF i0 iw iz ib hR'
    have h3_ := hX.1.1.2.2.2.1
    have hx8 := hX.2.2.2.1
    obtain ⟨g, hg⟩ : ∃ g : Nat, g = i % G := ⟨_, rfl⟩
    have hgl := Nat.mod_lt i hG0
    rw [← hg]
    rw [← hg] at hgl
    have hgj := hX.2.2.2.2 g (by omega)
    have hw1 : wr (1 + 2 * i) = wr (2 * i + 1) := by rw [Nat.add_comm]
    refine a_iload (j := 0) dX8_rightAhead_5 rfl ?_
    refine a_iload_n (j := 3) dX8_rightAhead_7 rfl rfl ?_
    refine a_icmp_ge (tgt := 128) dX8_rightAhead_8 (by decide) (fun c8_1 => absurd c8_1 (by omega)) (fun c8_1 => ?_)
    refine a_aload_n (j := 2) dX8_rightAhead_11 rfl rfl (Nat.le_of_ble_eq_true rfl) ?_
    refine a_aload_n (j := 2) dX8_rightAhead_12 rfl rfl (Nat.le_of_ble_eq_true rfl) ?_
    refine b_getp (a := 0) (p := 32) dX8_rightAhead_13 fwX8_18 (by decide) rfl (by decide) rfl rfl ?_
    refine a_aload_n (j := 2) dX8_rightAhead_16 rfl rfl (Nat.le_of_ble_eq_true rfl) ?_
    refine b_getp (a := 0) (p := 32) dX8_rightAhead_17 fwX8_18 (by decide) rfl (by decide) rfl rfl ?_
    refine b_getp (a := 32) (p := 37) dX8_rightAhead_20 fwX8_253 (by decide) rfl (by decide) rfl rfl ?_
    refine a_iload_n (j := 1) dX8_rightAhead_23 rfl rfl ?_
    refine b_iaload (a := 37) (z := J (153 + 2 * g)) g dX8_rightAhead_24 (by decide) rfl rfl (by omega) (sp_nil rfl _) ((Fr_v hF (by decide)).trans (hR.2.2.2.2.2 g (by omega)).1) (fun r24_2 => ?_)
    refine a_aload_n (j := 2) dX8_rightAhead_25 rfl rfl (Nat.le_of_ble_eq_true rfl) ?_
    refine b_getp (a := 0) (p := 32) dX8_rightAhead_26 fwX8_18 (by decide) rfl (by decide) rfl rfl ?_
    refine b_getp (a := 32) (p := 38) dX8_rightAhead_29 fwX8_256 (by decide) rfl (by decide) rfl rfl ?_
    refine a_iload_n (j := 1) dX8_rightAhead_32 rfl rfl ?_
    refine b_iaload (a := 38) (z := J (153 + 2 * g + 1)) g dX8_rightAhead_33 (by decide) rfl rfl (by omega) (sp_nil rfl _) ((Fr_v hF (by decide)).trans (hR.2.2.2.2.2 g (by omega)).2) (fun r33_3 => ?_)
    refine b_callV (d' := d - 1) (mc' := 0) (ms' := 0) (mc1 := 0) (ms1 := 0) (st := []) (b := 0) [vA 32, vI (J (153 + 2 * g)), vI (J (153 + 2 * g + 1))] dX8_rightAhead_34 mwX8_rideOn lkX8_259 (by decide) rfl rc_X8 rfl (Nat.le_of_ble_eq_true rfl) (by omega) rfl rfl (c_X8_rideOn_32 (T := T) (z := z) (by omega) hT (TT_fr (by decide) hF hTT) ((ib 0 (by decide)).trans hk0) (CHp_fr (hF 79 (by decide)) hCH) ((iw 9 (by decide)).trans hg9) iz (by omega) (by omega) (fun h8 e8 c8 z8 r8 hF8 a8 b8 d8 f8 i8 => ?_))
    have r8 : (e8, c8, z8) = ckR T J G i z := by rw [r8]; unfold ckR; rw [← hg]
    show Aj γ mX8_rightAhead d 0 0 Post 37 [(4, vI ((i : Nat) : Int)), (3, vI ((g : Nat) : Int)), (0, vA 0), (1, vI ((n : Nat) : Int)), (2, vI told)] [vI e8] (mk h8 τ)
    refine a_istore (lv' := [(5, vI e8), (4, vI ((i : Nat) : Int)), (3, vI ((g : Nat) : Int)), (0, vA 0), (1, vI ((n : Nat) : Int)), (2, vI told)]) dX8_rightAhead_37 (by decide) rfl ?_
    refine a_iconst dX8_rightAhead_39 ⟨by decide, by decide⟩ ?_
    refine a_iload (j := 1) dX8_rightAhead_40 rfl ?_
    refine a_imul (z := (2 * ((i : Nat) : Int))) dX8_rightAhead_42 (w_ok (by omega) (by omega)) ?_
    refine a_iload_n (j := 5) dX8_rightAhead_43 rfl rfl ?_
    refine a_icmp_ge (tgt := 61) dX8_rightAhead_44 (by decide) (fun c44_4 => ?_) (fun c44_4 => ?_)
    · refine a_iconst dX8_rightAhead_61 ⟨by decide, by decide⟩ ?_
      refine a_iload (j := 1) dX8_rightAhead_62 rfl ?_
      refine a_imul (z := (2 * ((i : Nat) : Int))) dX8_rightAhead_64 (w_ok (by omega) (by omega)) ?_
      exact a_iret dX8_rightAhead_65 rfl (post_v (kQ h8 z8 (Fr_t hF hF8) (fun k hk => (a8 k hk).trans (i0 k hk)) (fun k hk => (d8 k hk).trans (iw k hk)) f8 (fun k hk => (i8 k hk).trans (ib k hk))) (by rw [hR', ck_a r8 (by omega)]))
    · refine a_aload_n (j := 3) dX8_rightAhead_47 rfl rfl (Nat.le_of_ble_eq_true rfl) ?_
      refine b_getp (a := 0) (p := 89) dX8_rightAhead_48 fwX8_62 (by decide) rfl (by decide) rfl rfl ?_
      refine a_iconst dX8_rightAhead_51 ⟨by decide, by decide⟩ ?_
      refine a_iload (j := 1) dX8_rightAhead_52 rfl ?_
      refine a_imul (z := (2 * ((i : Nat) : Int))) dX8_rightAhead_54 (w_ok (by omega) (by omega)) ?_
      refine b_iaload (a := 89) (z := wr (2 * i)) (2 * i) dX8_rightAhead_55 (by decide) rfl (by omega) (by omega) (sp_nil rfl _) ((Fr_v hF8 (by decide)).trans ((Fr_v hF (by decide)).trans (congrFun hwr _))) (fun r55_5 => ?_)
      refine a_iload (j := 0) dX8_rightAhead_56 rfl ?_
      refine a_icmp_eq (tgt := 66) dX8_rightAhead_58 (by decide) (fun c58_6 => ?_) (fun c58_6 => ?_)
      · refine a_iconst dX8_rightAhead_66 ⟨by decide, by decide⟩ ?_
        refine a_iload (j := 1) dX8_rightAhead_67 rfl ?_
        refine a_imul (z := (2 * ((i : Nat) : Int))) dX8_rightAhead_69 (w_ok (by omega) (by omega)) ?_
        refine a_iconst dX8_rightAhead_70 ⟨by decide, by decide⟩ ?_
        refine a_iadd (z := ((2 * ((i : Nat) : Int)) + 1)) dX8_rightAhead_71 (w_ok (by omega) (by omega)) ?_
        refine a_iload_n (j := 5) dX8_rightAhead_72 rfl rfl ?_
        refine a_icmp_ge (tgt := 94) dX8_rightAhead_73 (by decide) (fun c73_7 => ?_) (fun c73_7 => ?_)
        · refine a_iconst dX8_rightAhead_94 ⟨by decide, by decide⟩ ?_
          refine a_iload (j := 1) dX8_rightAhead_95 rfl ?_
          refine a_imul (z := (2 * ((i : Nat) : Int))) dX8_rightAhead_97 (w_ok (by omega) (by omega)) ?_
          refine a_iconst dX8_rightAhead_98 ⟨by decide, by decide⟩ ?_
          refine a_iadd (z := ((2 * ((i : Nat) : Int)) + 1)) dX8_rightAhead_99 (w_ok (by omega) (by omega)) ?_
          exact a_iret dX8_rightAhead_100 rfl (post_v (kQ h8 z8 (Fr_t hF hF8) (fun k hk => (a8 k hk).trans (i0 k hk)) (fun k hk => (d8 k hk).trans (iw k hk)) f8 (fun k hk => (i8 k hk).trans (ib k hk))) (by rw [hR', ck_b r8 (by omega) (by omega)]))
        · refine a_aload_n (j := 3) dX8_rightAhead_76 rfl rfl (Nat.le_of_ble_eq_true rfl) ?_
          refine b_getp (a := 0) (p := 89) dX8_rightAhead_77 fwX8_62 (by decide) rfl (by decide) rfl rfl ?_
          refine a_iconst dX8_rightAhead_80 ⟨by decide, by decide⟩ ?_
          refine a_iload (j := 1) dX8_rightAhead_81 rfl ?_
          refine a_imul (z := (2 * ((i : Nat) : Int))) dX8_rightAhead_83 (w_ok (by omega) (by omega)) ?_
          refine a_iconst dX8_rightAhead_84 ⟨by decide, by decide⟩ ?_
          refine a_iadd (z := ((2 * ((i : Nat) : Int)) + 1)) dX8_rightAhead_85 (w_ok (by omega) (by omega)) ?_
          refine b_iaload (a := 89) (z := wr (1 + 2 * i)) (2 * i + 1) dX8_rightAhead_86 (by decide) rfl (by omega) (by omega) (sp_nil rfl _) ((Fr_v hF8 (by decide)).trans ((Fr_v hF (by decide)).trans ((congrArg (h 89) (show (2 * i + 1) = (1 + 2 * i) by omega)).trans (congrFun hwr _)))) (fun r86_8 => ?_)
          refine a_aload_n (j := 3) dX8_rightAhead_87 rfl rfl (Nat.le_of_ble_eq_true rfl) ?_
          refine b_get (a := 0) (z := c8) (t := 0) dX8_rightAhead_88 fwX8_351 (by decide) rfl (by decide) rfl rfl b8 ?_
          refine a_icmp_eq (tgt := 101) dX8_rightAhead_91 (by decide) (fun c91_9 => ?_) (fun c91_9 => ?_)
          · refine a_iload_n (j := 2) dX8_rightAhead_101 rfl rfl ?_
            refine a_iconst dX8_rightAhead_102 ⟨by decide, by decide⟩ ?_
            refine a_iadd (z := (((g : Nat) : Int) + 1)) dX8_rightAhead_103 (w_ok (by omega) (by omega)) ?_
            refine a_aload_n (j := 3) dX8_rightAhead_104 rfl rfl (Nat.le_of_ble_eq_true rfl) ?_
            refine b_getp (a := 0) (p := 32) dX8_rightAhead_105 fwX8_18 (by decide) rfl (by decide) rfl rfl ?_
            refine b_get (a := 32) (z := ((G : Nat) : Int)) (t := 0) dX8_rightAhead_108 fwX8_250 (by decide) rfl (by decide) rfl rfl ((d8 12 (by decide)).trans ((iw 12 (by decide)).trans (hR.1.2.2.2.2.2.2.2.1.trans hG))) ?_
            refine a_icmp_ge (tgt := 120) dX8_rightAhead_111 (by decide) (fun c111_10 => ?_) (fun c111_10 => ?_)
            · refine a_iconst dX8_rightAhead_120 ⟨by decide, by decide⟩ ?_
              refine a_istore_n (lv' := [(3, vI 0), (5, vI e8), (4, vI ((i : Nat) : Int)), (0, vA 0), (1, vI ((n : Nat) : Int)), (2, vI told)]) dX8_rightAhead_121 rfl (by decide) rfl ?_
              refine a_iinc (j := 2) (z' := ((i + 1 : Nat) : Int)) (lv' := [(4, vI ((i + 1 : Nat) : Int)), (3, vI 0), (5, vI e8), (0, vA 0), (1, vI ((n : Nat) : Int)), (2, vI told)]) dX8_rightAhead_122 rfl (w_okN (by omega) (by omega) (by omega)) (by decide) rfl ?_
              refine a_goto (tgt := 5) dX8_rightAhead_125 (by decide) ?_
              have hms := modS (i := i) hG0
              rw [← hg] at hms
              rw [show 0 = (((i + 1) % G : Nat) : Int) by omega]
              refine a_lv (lv' := [(4, vI (((i + 1) : Nat) : Int)), (3, vI ((((i + 1) % G) : Nat) : Int)), (0, vA 0), (1, vI ((n : Nat) : Int)), (2, vI told)]) (by intro q hq; simp only [List.mem_cons, List.not_mem_nil, or_false] at hq ⊢; rcases hq with rfl | rfl | rfl | rfl | rfl <;> simp) (ih (i + 1) z8 h8 (by omega) (Fr_t hF hF8) (fun k hk => (a8 k hk).trans (i0 k hk)) (fun k hk => (d8 k hk).trans (iw k hk)) f8 (fun k hk => (i8 k hk).trans (ib k hk)) (hR'.trans (ck_c r8 (by omega) (by omega))))
            · refine a_iload_n (j := 2) dX8_rightAhead_114 rfl rfl ?_
              refine a_iconst dX8_rightAhead_115 ⟨by decide, by decide⟩ ?_
              refine a_iadd (z := (((g : Nat) : Int) + 1)) dX8_rightAhead_116 (w_ok (by omega) (by omega)) ?_
              refine a_goto (tgt := 121) dX8_rightAhead_117 (by decide) ?_
              refine a_istore_n (lv' := [(3, vI (((g : Nat) : Int) + 1)), (5, vI e8), (4, vI ((i : Nat) : Int)), (0, vA 0), (1, vI ((n : Nat) : Int)), (2, vI told)]) dX8_rightAhead_121 rfl (by decide) rfl ?_
              refine a_iinc (j := 2) (z' := ((i + 1 : Nat) : Int)) (lv' := [(4, vI ((i + 1 : Nat) : Int)), (3, vI (((g : Nat) : Int) + 1)), (5, vI e8), (0, vA 0), (1, vI ((n : Nat) : Int)), (2, vI told)]) dX8_rightAhead_122 rfl (w_okN (by omega) (by omega) (by omega)) (by decide) rfl ?_
              refine a_goto (tgt := 5) dX8_rightAhead_125 (by decide) ?_
              have hms := modS (i := i) hG0
              rw [← hg] at hms
              rw [show (((g : Nat) : Int) + 1) = (((i + 1) % G : Nat) : Int) by omega]
              refine a_lv (lv' := [(4, vI (((i + 1) : Nat) : Int)), (3, vI ((((i + 1) % G) : Nat) : Int)), (0, vA 0), (1, vI ((n : Nat) : Int)), (2, vI told)]) (by intro q hq; simp only [List.mem_cons, List.not_mem_nil, or_false] at hq ⊢; rcases hq with rfl | rfl | rfl | rfl | rfl <;> simp) (ih (i + 1) z8 h8 (by omega) (Fr_t hF hF8) (fun k hk => (a8 k hk).trans (i0 k hk)) (fun k hk => (d8 k hk).trans (iw k hk)) f8 (fun k hk => (i8 k hk).trans (ib k hk)) (hR'.trans (ck_c r8 (by omega) (by omega))))
          · refine a_iconst dX8_rightAhead_94 ⟨by decide, by decide⟩ ?_
            refine a_iload (j := 1) dX8_rightAhead_95 rfl ?_
            refine a_imul (z := (2 * ((i : Nat) : Int))) dX8_rightAhead_97 (w_ok (by omega) (by omega)) ?_
            refine a_iconst dX8_rightAhead_98 ⟨by decide, by decide⟩ ?_
            refine a_iadd (z := ((2 * ((i : Nat) : Int)) + 1)) dX8_rightAhead_99 (w_ok (by omega) (by omega)) ?_
            exact a_iret dX8_rightAhead_100 rfl (post_v (kQ h8 z8 (Fr_t hF hF8) (fun k hk => (a8 k hk).trans (i0 k hk)) (fun k hk => (d8 k hk).trans (iw k hk)) f8 (fun k hk => (i8 k hk).trans (ib k hk))) (by rw [hR', ck_b r8 (by omega) (by omega)]))
      · refine a_iconst dX8_rightAhead_61 ⟨by decide, by decide⟩ ?_
        refine a_iload (j := 1) dX8_rightAhead_62 rfl ?_
        refine a_imul (z := (2 * ((i : Nat) : Int))) dX8_rightAhead_64 (w_ok (by omega) (by omega)) ?_
        exact a_iret dX8_rightAhead_65 rfl (post_v (kQ h8 z8 (Fr_t hF hF8) (fun k hk => (a8 k hk).trans (i0 k hk)) (fun k hk => (d8 k hk).trans (iw k hk)) f8 (fun k hk => (i8 k hk).trans (ib k hk))) (by rw [hR', ck_a r8 (by omega)]))
theorem c_X8_rightAhead {γ : GT} {d : Nat} {T : Nat → Nat → Int} {J wr : Nat → Int} {G n : Nat} {told z : Int} {h : Nat → Nat → Int} {τ : List AC} {Post : Option AV → List AC → Prop} (hd : 6 ≤ d) (hT : tOK T) (hTT : TT h T) (hk0 : h 78 0 = 0) (hCH : CHp h 78 0 T (plT T 0)) (hg9 : h 32 9 = T 0 0) (hR : WR h τ 32 J) (hX : NX J) (hG : J 8 = ((G : Nat) : Int)) (hG0 : 0 < G) (hn : n ≤ 30) (htold : 0 ≤ told ∧ told ≤ 60) (hwr : h 89 = wr) (hz : h 32 15 = z) (kQ : ∀ h' z', Fr [0, 32, 78] h h' → (∀ k, k ≠ 8 → h' 0 k = h 0 k) → (∀ k, k ≠ 15 → h' 32 k = h 32 k) → h' 32 15 = z' → (∀ k, k ≠ 3 → h' 78 k = h 78 k) → Post (some (vI (ckF T J wr G told n 0 z))) (mk h' τ)) : Cj γ mX8_rightAhead d 0 0 [vA 0, vI ((n : Nat) : Int), vI told] (mk h τ) Post := by
  refine c_of (by decide) (Nat.le_of_ble_eq_true rfl) ?_
  show Aj γ mX8_rightAhead d 0 0 Post 0 [(0, vA 0), (1, vI ((n : Nat) : Int)), (2, vI told)] [] (mk h τ)
  refine a_iconst dX8_rightAhead_0 ⟨by decide, by decide⟩ ?_
  refine a_istore_n (lv' := [(3, vI 0), (0, vA 0), (1, vI ((n : Nat) : Int)), (2, vI told)]) dX8_rightAhead_1 rfl (by decide) rfl ?_
  refine a_iconst dX8_rightAhead_2 ⟨by decide, by decide⟩ ?_
  refine a_istore (lv' := [(4, vI 0), (3, vI 0), (0, vA 0), (1, vI ((n : Nat) : Int)), (2, vI told)]) dX8_rightAhead_3 (by decide) rfl ?_
  have q0 : (0 : Nat) % G = 0 := Nat.zero_mod G
  have q := l_right (γ := γ) (d := d) (τ := τ) (Post := Post) (h := h) (T := T) (J := J) (wr := wr) (G := G) (n := n) (told := told) (R := ckF T J wr G told n 0 z) hd hT hTT hk0 hCH hg9 hR hX hG hG0 hn htold hwr kQ n 0 z h (by omega) Fr_r (fun k hk => rfl) (fun k hk => rfl) hz (fun k hk => rfl) rfl
  rw [q0] at q
  exact a_lv (lv' := [(4, vI ((0 : Nat) : Int)), (3, vI ((0 : Nat) : Int)), (0, vA 0), (1, vI ((n : Nat) : Int)), (2, vI told)]) (by intro q hq; simp only [List.mem_cons, List.not_mem_nil, or_false] at hq ⊢; rcases hq with rfl | rfl | rfl | rfl | rfl <;> simp) q
set_option maxHeartbeats 8000000 in
theorem l_right9 {γ : GT} {d : Nat} {T : Nat → Nat → Int} {J wr : Nat → Int} {G n : Nat} {told R : Int} {h : Nat → Nat → Int} {τ : List AC} {Post : Option AV → List AC → Prop} (hd : 8 ≤ d) (hTe : tt J = T) (hN : ∀ k, k ≠ 0 → h 124 k = J k) (hX : NX J) (hG : J 8 = ((G : Nat) : Int)) (hG0 : 0 < G) (hn : n ≤ 30) (htold : 0 ≤ told ∧ told ≤ 60) (hwr : h 153 = wr) (kQ : ∀ h' z', Fr [123, 124, 127, 128, 129, 130, 131, 132, 133, 134, 135, 136, 143, 144] h h' → (∀ k, k ≠ 0 → h' 124 k = h 124 k) → h' 124 0 = z' → K3 h h' → RC h' J → Post (some (vI R)) (mk h' τ)) :
    ∀ (f i : Nat) (r z : Int) (h1 : Nat → Nat → Int), i ≤ n → (r = 2 * (i : Int) ∧ i + f = n ∧ R = ckF T J wr G told f i z ∨ ¬ r = 2 * (i : Int) ∧ R = r) → 0 ≤ r → r ≤ 60 → Fr [123, 124, 127, 128, 129, 130, 131, 132, 133, 134, 135, 136, 143, 144] h h1 → (∀ k, k ≠ 0 → h1 124 k = h 124 k) → h1 124 0 = z → K3 h h1 → RC h1 J → Aj γ mX9_rightRides d 0 0 Post 5 [(4, vI ((i : Nat) : Int)), (3, vI r), (0, vA 123), (1, vI ((n : Nat) : Int)), (2, vI told)] [] (mk h1 τ) := by
  intro f
  induction f with
  | zero =>
    intro i r z h1 hin hR' hr0 hr6 hF i24' iz ik ic
    have hT : tOK T := hTe ▸ tt_OK hX.1
    have h3_ := hX.1.1.2.2.2.1
    have hx8 := hX.2.2.2.1
    obtain ⟨g, hg⟩ : ∃ g : Nat, g = i % G := ⟨_, rfl⟩
    have hgl := Nat.mod_lt i hG0
    rw [← hg] at hgl
    have hgj := hX.2.2.2.2 g (by omega)
    have hw1 : wr (1 + 2 * i) = wr (2 * i + 1) := by rw [Nat.add_comm]
    have i24 : ∀ k, k ≠ 0 → h1 124 k = J k := fun k hk => (i24' k hk).trans (hN k hk)
    have hX1 : NX (h1 124) := NX_e hX i24
    have htt1 : tt (h1 124) = T := (tt_e hX i24).trans hTe
    refine a_iload (j := 0) dX9_rightRides_5 rfl ?_
    refine a_iload_n (j := 3) dX9_rightRides_7 rfl rfl ?_
    refine a_icmp_ge (tgt := 125) dX9_rightRides_8 (by decide) (fun c8_1 => ?_) (fun c8_1 => ?_)
    · refine a_iload_n (j := 1) dX9_rightRides_125 rfl rfl ?_
      exact a_iret dX9_rightRides_126 rfl (post_v (kQ h1 z hF i24' iz ik ic) (by rcases hR' with q | q; (rw [q.2.2]; show 2 * ((i : Nat) : Int) = _; omega); exact q.2))
    · refine a_iload_n (j := 1) dX9_rightRides_11 rfl rfl ?_
      refine a_iconst dX9_rightRides_12 ⟨by decide, by decide⟩ ?_
      refine a_iload (j := 0) dX9_rightRides_13 rfl ?_
      refine a_imul (z := (2 * ((i : Nat) : Int))) dX9_rightRides_15 (w_ok (by omega) (by omega)) ?_
      refine a_icmp_ne (tgt := 125) dX9_rightRides_16 (by decide) (fun c16_2 => ?_) (fun c16_2 => ?_)
      · refine a_iload_n (j := 1) dX9_rightRides_125 rfl rfl ?_
        exact a_iret dX9_rightRides_126 rfl (post_v (kQ h1 z hF i24' iz ik ic) (by rcases hR' with q | q; (rw [q.2.2]; show 2 * ((i : Nat) : Int) = _; omega); exact q.2))
      · exfalso
        omega
  | succ f ih =>
    intro i r z h1 hin hR' hr0 hr6 hF i24' iz ik ic0
    have hT : tOK T := hTe ▸ tt_OK hX.1
    have h3_ := hX.1.1.2.2.2.1
    have hx8 := hX.2.2.2.1
    obtain ⟨g, hg⟩ : ∃ g : Nat, g = i % G := ⟨_, rfl⟩
    have hgl := Nat.mod_lt i hG0
    rw [← hg] at hgl
    have hgj := hX.2.2.2.2 g (by omega)
    have hw1 : wr (1 + 2 * i) = wr (2 * i + 1) := by rw [Nat.add_comm]
    have i24 : ∀ k, k ≠ 0 → h1 124 k = J k := fun k hk => (i24' k hk).trans (hN k hk)
    have hX1 : NX (h1 124) := NX_e hX i24
    have htt1 : tt (h1 124) = T := (tt_e hX i24).trans hTe
    have ic : RC h1 (h1 124) := RC_e (htt1.trans hTe.symm) ic0
    refine a_iload (j := 0) dX9_rightRides_5 rfl ?_
    refine a_iload_n (j := 3) dX9_rightRides_7 rfl rfl ?_
    refine a_icmp_ge (tgt := 125) dX9_rightRides_8 (by decide) (fun c8_1 => ?_) (fun c8_1 => ?_)
    · refine a_iload_n (j := 1) dX9_rightRides_125 rfl rfl ?_
      exact a_iret dX9_rightRides_126 rfl (post_v (kQ h1 z hF i24' iz ik ic0) (by rcases hR' with q | q; (exfalso; omega); exact q.2))
    · refine a_iload_n (j := 1) dX9_rightRides_11 rfl rfl ?_
      refine a_iconst dX9_rightRides_12 ⟨by decide, by decide⟩ ?_
      refine a_iload (j := 0) dX9_rightRides_13 rfl ?_
      refine a_imul (z := (2 * ((i : Nat) : Int))) dX9_rightRides_15 (w_ok (by omega) (by omega)) ?_
      refine a_icmp_ne (tgt := 125) dX9_rightRides_16 (by decide) (fun c16_2 => ?_) (fun c16_2 => ?_)
      · refine a_iload_n (j := 1) dX9_rightRides_125 rfl rfl ?_
        exact a_iret dX9_rightRides_126 rfl (post_v (kQ h1 z hF i24' iz ik ic0) (by rcases hR' with q | q; (exfalso; omega); exact q.2))
      · have hcase : r = 2 * ((i : Nat) : Int) ∧ i + (f + 1) = n ∧ R = ckF T J wr G told (f + 1) i z := by rcases hR' with q | q; exact q; exact absurd (show r = 2 * ((i : Nat) : Int) by omega) q.1
        obtain ⟨hr1, hr2, hr3⟩ := hcase
        refine a_sipush dX9_rightRides_19 ⟨by decide, by decide, by decide⟩ ?_
        refine a_iconst dX9_rightRides_22 ⟨by decide, by decide⟩ ?_
        refine a_iload (j := 0) dX9_rightRides_23 rfl ?_
        refine a_aload_n (j := 2) dX9_rightRides_25 rfl rfl (Nat.le_of_ble_eq_true rfl) ?_
        refine b_getp (a := 123) (p := 124) dX9_rightRides_26 fwX9_9 (by decide) rfl (by decide) rfl rfl ?_
        refine a_bipush dX9_rightRides_29 ⟨by decide, by decide, by decide⟩ ?_
        refine b_iaload (a := 124) (z := ((G : Nat) : Int)) 8 dX9_rightRides_31 (by decide) rfl rfl (by decide) rfl ((i24 8 (by decide)).trans hG) (fun r31_3 => ?_)
        refine a_irem (z := ((g : Nat) : Int)) dX9_rightRides_32 (by omega) (by rw [w_remN (by omega) (by omega) (by omega), ← Int.natCast_emod, ← hg]) ?_
        refine a_imul (z := (2 * ((g : Nat) : Int))) dX9_rightRides_33 (w_ok (by omega) (by omega)) ?_
        refine a_iadd (z := (153 + (2 * ((g : Nat) : Int)))) dX9_rightRides_34 (w_ok (by omega) (by omega)) ?_
        refine a_istore (lv' := [(5, vI (153 + (2 * ((g : Nat) : Int)))), (4, vI ((i : Nat) : Int)), (3, vI r), (0, vA 123), (1, vI ((n : Nat) : Int)), (2, vI told)]) dX9_rightRides_35 (by decide) rfl ?_
        refine a_aload_n (j := 3) dX9_rightRides_37 rfl rfl (Nat.le_of_ble_eq_true rfl) ?_
        refine a_aload_n (j := 3) dX9_rightRides_38 rfl rfl (Nat.le_of_ble_eq_true rfl) ?_
        refine b_getp (a := 123) (p := 124) dX9_rightRides_39 fwX9_9 (by decide) rfl (by decide) rfl rfl ?_
        refine a_iload (j := 0) dX9_rightRides_42 rfl ?_
        refine b_iaload (a := 124) (z := J (153 + 2 * g)) (153 + 2 * g) dX9_rightRides_44 (by decide) rfl (by omega) (by omega) (sp_nil rfl _) (i24 (153 + 2 * g) (by omega)) (fun r44_4 => ?_)
        refine a_aload_n (j := 3) dX9_rightRides_45 rfl rfl (Nat.le_of_ble_eq_true rfl) ?_
        refine b_getp (a := 123) (p := 124) dX9_rightRides_46 fwX9_9 (by decide) rfl (by decide) rfl rfl ?_
        refine a_iload (j := 0) dX9_rightRides_49 rfl ?_
        refine a_iconst dX9_rightRides_51 ⟨by decide, by decide⟩ ?_
        refine a_iadd (z := ((153 + (2 * ((g : Nat) : Int))) + 1)) dX9_rightRides_52 (w_ok (by omega) (by omega)) ?_
        refine b_iaload (a := 124) (z := J (153 + 2 * g + 1)) (154 + 2 * g) dX9_rightRides_53 (by decide) rfl (by omega) (by omega) (sp_nil rfl _) ((congrArg (h1 124) (show 154 + 2 * g = 153 + 2 * g + 1 by omega)).trans (i24 (153 + 2 * g + 1) (by omega))) (fun r53_5 => ?_)
        refine b_callV (d' := d - 1) (mc' := 0) (ms' := 0) (mc1 := 0) (ms1 := 0) (st := []) (b := 123) [vI (J (153 + 2 * g)), vI (J (153 + 2 * g + 1))] dX9_rightRides_54 mwX9_rides lkX9_309 (by decide) rfl rc_X9 rfl (Nat.le_of_ble_eq_true rfl) (by omega) rfl rfl (c_X9_rides (T := T) (N := h1 124) (s := J (153 + 2 * g)) (m := J (153 + 2 * g + 1)) (z := z) (by omega) htt1 rfl hX1 ic iz (by rw [i24 4 (by decide)]; omega) (by omega) (fun h8 e8 c8 z8 r8 hF8 a8 b8 d8 f8 i8 => ?_))
        have r8 : (e8, c8, z8) = ckR T J G i z := by rw [r8]; unfold ckR; rw [← hg]
        show Aj γ mX9_rightRides d 0 0 Post 57 [(5, vI (153 + (2 * ((g : Nat) : Int)))), (4, vI ((i : Nat) : Int)), (3, vI r), (0, vA 123), (1, vI ((n : Nat) : Int)), (2, vI told)] [vI e8] (mk h8 τ)
        refine a_istore (lv' := [(6, vI e8), (5, vI (153 + (2 * ((g : Nat) : Int)))), (4, vI ((i : Nat) : Int)), (3, vI r), (0, vA 123), (1, vI ((n : Nat) : Int)), (2, vI told)]) dX9_rightRides_57 (by decide) rfl ?_
        refine a_iload_n (j := 3) dX9_rightRides_59 rfl rfl ?_
        refine a_iload_n (j := 3) dX9_rightRides_60 rfl rfl ?_
        refine a_iload_n (j := 6) dX9_rightRides_61 rfl rfl ?_
        refine a_icmp_ge (tgt := 80) dX9_rightRides_62 (by decide) (fun c62_6 => ?_) (fun c62_6 => ?_)
        · refine a_iconst dX9_rightRides_80 ⟨by decide, by decide⟩ ?_
          refine a_iadd (z := r + 0) dX9_rightRides_81 (w_ok (by omega) (by omega)) ?_
          refine a_istore_n (lv' := [(3, vI (r + 0)), (6, vI e8), (5, vI (153 + (2 * ((g : Nat) : Int)))), (4, vI ((i : Nat) : Int)), (0, vA 123), (1, vI ((n : Nat) : Int)), (2, vI told)]) dX9_rightRides_82 rfl (by decide) rfl ?_
          refine a_iload_n (j := 0) dX9_rightRides_83 rfl rfl ?_
          refine a_iload_n (j := 0) dX9_rightRides_84 rfl rfl ?_
          refine a_iconst dX9_rightRides_85 ⟨by decide, by decide⟩ ?_
          refine a_iload (j := 3) dX9_rightRides_86 rfl ?_
          refine a_imul (z := (2 * ((i : Nat) : Int))) dX9_rightRides_88 (w_ok (by omega) (by omega)) ?_
          refine a_iconst dX9_rightRides_89 ⟨by decide, by decide⟩ ?_
          refine a_iadd (z := ((2 * ((i : Nat) : Int)) + 1)) dX9_rightRides_90 (w_ok (by omega) (by omega)) ?_
          refine a_icmp_ne (tgt := 116) dX9_rightRides_91 (by decide) (fun c91_7 => ?_) (fun c91_7 => ?_)
          · refine a_iconst dX9_rightRides_116 ⟨by decide, by decide⟩ ?_
            refine a_iadd (z := (r + 0) + 0) dX9_rightRides_117 (w_ok (by omega) (by omega)) ?_
            refine a_istore_n (lv' := [(3, vI ((r + 0) + 0)), (6, vI e8), (5, vI (153 + (2 * ((g : Nat) : Int)))), (4, vI ((i : Nat) : Int)), (0, vA 123), (1, vI ((n : Nat) : Int)), (2, vI told)]) dX9_rightRides_118 rfl (by decide) rfl ?_
            refine a_iinc (j := 3) (z' := ((i + 1 : Nat) : Int)) (lv' := [(4, vI ((i + 1 : Nat) : Int)), (3, vI ((r + 0) + 0)), (6, vI e8), (5, vI (153 + (2 * ((g : Nat) : Int)))), (0, vA 123), (1, vI ((n : Nat) : Int)), (2, vI told)]) dX9_rightRides_119 rfl (w_okN (by omega) (by omega) (by omega)) (by decide) rfl ?_
            refine a_goto (tgt := 5) dX9_rightRides_122 (by decide) ?_
            refine a_lv (lv' := [(4, vI (((i + 1) : Nat) : Int)), (3, vI ((r + 0) + 0)), (0, vA 123), (1, vI ((n : Nat) : Int)), (2, vI told)]) (by intro q hq; simp only [List.mem_cons, List.not_mem_nil, or_false] at hq ⊢; rcases hq with rfl | rfl | rfl | rfl | rfl <;> simp) (ih (i + 1) ((r + 0) + 0) z8 h8 (by omega) ?_ (by omega) (by omega) (Fr_t hF hF8) (fun k hk => (a8 k hk).trans (i24' k hk)) b8 (K3_t ik d8) (RC_e (N := h1 124) (htt1.trans hTe.symm).symm i8))
            first | (exact Or.inl ⟨by omega, by omega, by rw [hr3, ck_c r8 (by omega) (by omega)]⟩) | (exact Or.inr ⟨by omega, by rw [hr3, ck_a r8 (by omega)]; omega⟩) | (exact Or.inr ⟨by omega, by rw [hr3, ck_b r8 (by omega) (by omega)]; omega⟩) | (exfalso; omega)
          · refine a_iload_n (j := 0) dX9_rightRides_94 rfl rfl ?_
            refine a_iload_n (j := 6) dX9_rightRides_95 rfl rfl ?_
            refine a_icmp_ge (tgt := 116) dX9_rightRides_96 (by decide) (fun c96_8 => ?_) (fun c96_8 => ?_)
            · refine a_iconst dX9_rightRides_116 ⟨by decide, by decide⟩ ?_
              refine a_iadd (z := (r + 0) + 0) dX9_rightRides_117 (w_ok (by omega) (by omega)) ?_
              refine a_istore_n (lv' := [(3, vI ((r + 0) + 0)), (6, vI e8), (5, vI (153 + (2 * ((g : Nat) : Int)))), (4, vI ((i : Nat) : Int)), (0, vA 123), (1, vI ((n : Nat) : Int)), (2, vI told)]) dX9_rightRides_118 rfl (by decide) rfl ?_
              refine a_iinc (j := 3) (z' := ((i + 1 : Nat) : Int)) (lv' := [(4, vI ((i + 1 : Nat) : Int)), (3, vI ((r + 0) + 0)), (6, vI e8), (5, vI (153 + (2 * ((g : Nat) : Int)))), (0, vA 123), (1, vI ((n : Nat) : Int)), (2, vI told)]) dX9_rightRides_119 rfl (w_okN (by omega) (by omega) (by omega)) (by decide) rfl ?_
              refine a_goto (tgt := 5) dX9_rightRides_122 (by decide) ?_
              refine a_lv (lv' := [(4, vI (((i + 1) : Nat) : Int)), (3, vI ((r + 0) + 0)), (0, vA 123), (1, vI ((n : Nat) : Int)), (2, vI told)]) (by intro q hq; simp only [List.mem_cons, List.not_mem_nil, or_false] at hq ⊢; rcases hq with rfl | rfl | rfl | rfl | rfl <;> simp) (ih (i + 1) ((r + 0) + 0) z8 h8 (by omega) ?_ (by omega) (by omega) (Fr_t hF hF8) (fun k hk => (a8 k hk).trans (i24' k hk)) b8 (K3_t ik d8) (RC_e (N := h1 124) (htt1.trans hTe.symm).symm i8))
              first | (exact Or.inl ⟨by omega, by omega, by rw [hr3, ck_c r8 (by omega) (by omega)]⟩) | (exact Or.inr ⟨by omega, by rw [hr3, ck_a r8 (by omega)]; omega⟩) | (exact Or.inr ⟨by omega, by rw [hr3, ck_b r8 (by omega) (by omega)]; omega⟩) | (exfalso; omega)
            · refine a_aload_n (j := 4) dX9_rightRides_99 rfl rfl (Nat.le_of_ble_eq_true rfl) ?_
              refine b_getp (a := 123) (p := 153) dX9_rightRides_100 fwX9_100 (by decide) rfl (by decide) rfl rfl ?_
              refine a_iload_n (j := 0) dX9_rightRides_103 rfl rfl ?_
              refine b_iaload (a := 153) (z := wr (1 + 2 * i)) (2 * i + 1) dX9_rightRides_104 (by decide) rfl (by omega) (by omega) (sp_nil rfl _) ((Fr_v hF8 (by decide)).trans ((Fr_v hF (by decide)).trans ((congrArg (h 153) (show (2 * i + 1) = (1 + 2 * i) by omega)).trans (congrFun hwr _)))) (fun r104_9 => ?_)
              refine a_aload_n (j := 4) dX9_rightRides_105 rfl rfl (Nat.le_of_ble_eq_true rfl) ?_
              refine b_get (a := 123) (z := c8) (t := 0) dX9_rightRides_106 fwX9_303 (by decide) rfl (by decide) rfl rfl f8 ?_
              refine a_icmp_ne (tgt := 116) dX9_rightRides_109 (by decide) (fun c109_10 => ?_) (fun c109_10 => ?_)
              · refine a_iconst dX9_rightRides_116 ⟨by decide, by decide⟩ ?_
                refine a_iadd (z := (r + 0) + 0) dX9_rightRides_117 (w_ok (by omega) (by omega)) ?_
                refine a_istore_n (lv' := [(3, vI ((r + 0) + 0)), (6, vI e8), (5, vI (153 + (2 * ((g : Nat) : Int)))), (4, vI ((i : Nat) : Int)), (0, vA 123), (1, vI ((n : Nat) : Int)), (2, vI told)]) dX9_rightRides_118 rfl (by decide) rfl ?_
                refine a_iinc (j := 3) (z' := ((i + 1 : Nat) : Int)) (lv' := [(4, vI ((i + 1 : Nat) : Int)), (3, vI ((r + 0) + 0)), (6, vI e8), (5, vI (153 + (2 * ((g : Nat) : Int)))), (0, vA 123), (1, vI ((n : Nat) : Int)), (2, vI told)]) dX9_rightRides_119 rfl (w_okN (by omega) (by omega) (by omega)) (by decide) rfl ?_
                refine a_goto (tgt := 5) dX9_rightRides_122 (by decide) ?_
                refine a_lv (lv' := [(4, vI (((i + 1) : Nat) : Int)), (3, vI ((r + 0) + 0)), (0, vA 123), (1, vI ((n : Nat) : Int)), (2, vI told)]) (by intro q hq; simp only [List.mem_cons, List.not_mem_nil, or_false] at hq ⊢; rcases hq with rfl | rfl | rfl | rfl | rfl <;> simp) (ih (i + 1) ((r + 0) + 0) z8 h8 (by omega) ?_ (by omega) (by omega) (Fr_t hF hF8) (fun k hk => (a8 k hk).trans (i24' k hk)) b8 (K3_t ik d8) (RC_e (N := h1 124) (htt1.trans hTe.symm).symm i8))
                first | (exact Or.inl ⟨by omega, by omega, by rw [hr3, ck_c r8 (by omega) (by omega)]⟩) | (exact Or.inr ⟨by omega, by rw [hr3, ck_a r8 (by omega)]; omega⟩) | (exact Or.inr ⟨by omega, by rw [hr3, ck_b r8 (by omega) (by omega)]; omega⟩) | (exfalso; omega)
              · refine a_iconst dX9_rightRides_112 ⟨by decide, by decide⟩ ?_
                refine a_goto (tgt := 117) dX9_rightRides_113 (by decide) ?_
                refine a_iadd (z := ((r + 0) + 1)) dX9_rightRides_117 (w_ok (by omega) (by omega)) ?_
                refine a_istore_n (lv' := [(3, vI ((r + 0) + 1)), (6, vI e8), (5, vI (153 + (2 * ((g : Nat) : Int)))), (4, vI ((i : Nat) : Int)), (0, vA 123), (1, vI ((n : Nat) : Int)), (2, vI told)]) dX9_rightRides_118 rfl (by decide) rfl ?_
                refine a_iinc (j := 3) (z' := ((i + 1 : Nat) : Int)) (lv' := [(4, vI ((i + 1 : Nat) : Int)), (3, vI ((r + 0) + 1)), (6, vI e8), (5, vI (153 + (2 * ((g : Nat) : Int)))), (0, vA 123), (1, vI ((n : Nat) : Int)), (2, vI told)]) dX9_rightRides_119 rfl (w_okN (by omega) (by omega) (by omega)) (by decide) rfl ?_
                refine a_goto (tgt := 5) dX9_rightRides_122 (by decide) ?_
                refine a_lv (lv' := [(4, vI (((i + 1) : Nat) : Int)), (3, vI ((r + 0) + 1)), (0, vA 123), (1, vI ((n : Nat) : Int)), (2, vI told)]) (by intro q hq; simp only [List.mem_cons, List.not_mem_nil, or_false] at hq ⊢; rcases hq with rfl | rfl | rfl | rfl | rfl <;> simp) (ih (i + 1) ((r + 0) + 1) z8 h8 (by omega) ?_ (by omega) (by omega) (Fr_t hF hF8) (fun k hk => (a8 k hk).trans (i24' k hk)) b8 (K3_t ik d8) (RC_e (N := h1 124) (htt1.trans hTe.symm).symm i8))
                first | (exact Or.inl ⟨by omega, by omega, by rw [hr3, ck_c r8 (by omega) (by omega)]⟩) | (exact Or.inr ⟨by omega, by rw [hr3, ck_a r8 (by omega)]; omega⟩) | (exact Or.inr ⟨by omega, by rw [hr3, ck_b r8 (by omega) (by omega)]; omega⟩) | (exfalso; omega)
        · refine a_aload_n (j := 4) dX9_rightRides_65 rfl rfl (Nat.le_of_ble_eq_true rfl) ?_
          refine b_getp (a := 123) (p := 153) dX9_rightRides_66 fwX9_100 (by decide) rfl (by decide) rfl rfl ?_
          refine a_iload_n (j := 3) dX9_rightRides_69 rfl rfl ?_
          refine b_iaload (a := 153) (z := wr (2 * i)) (2 * i) dX9_rightRides_70 (by decide) rfl (by omega) (by omega) (sp_nil rfl _) ((Fr_v hF8 (by decide)).trans ((Fr_v hF (by decide)).trans (congrFun hwr _))) (fun r70_11 => ?_)
          refine a_iload (j := 0) dX9_rightRides_71 rfl ?_
          refine a_icmp_ne (tgt := 80) dX9_rightRides_73 (by decide) (fun c73_12 => ?_) (fun c73_12 => ?_)
          · refine a_iconst dX9_rightRides_80 ⟨by decide, by decide⟩ ?_
            refine a_iadd (z := r + 0) dX9_rightRides_81 (w_ok (by omega) (by omega)) ?_
            refine a_istore_n (lv' := [(3, vI (r + 0)), (6, vI e8), (5, vI (153 + (2 * ((g : Nat) : Int)))), (4, vI ((i : Nat) : Int)), (0, vA 123), (1, vI ((n : Nat) : Int)), (2, vI told)]) dX9_rightRides_82 rfl (by decide) rfl ?_
            refine a_iload_n (j := 0) dX9_rightRides_83 rfl rfl ?_
            refine a_iload_n (j := 0) dX9_rightRides_84 rfl rfl ?_
            refine a_iconst dX9_rightRides_85 ⟨by decide, by decide⟩ ?_
            refine a_iload (j := 3) dX9_rightRides_86 rfl ?_
            refine a_imul (z := (2 * ((i : Nat) : Int))) dX9_rightRides_88 (w_ok (by omega) (by omega)) ?_
            refine a_iconst dX9_rightRides_89 ⟨by decide, by decide⟩ ?_
            refine a_iadd (z := ((2 * ((i : Nat) : Int)) + 1)) dX9_rightRides_90 (w_ok (by omega) (by omega)) ?_
            refine a_icmp_ne (tgt := 116) dX9_rightRides_91 (by decide) (fun c91_13 => ?_) (fun c91_13 => ?_)
            · refine a_iconst dX9_rightRides_116 ⟨by decide, by decide⟩ ?_
              refine a_iadd (z := (r + 0) + 0) dX9_rightRides_117 (w_ok (by omega) (by omega)) ?_
              refine a_istore_n (lv' := [(3, vI ((r + 0) + 0)), (6, vI e8), (5, vI (153 + (2 * ((g : Nat) : Int)))), (4, vI ((i : Nat) : Int)), (0, vA 123), (1, vI ((n : Nat) : Int)), (2, vI told)]) dX9_rightRides_118 rfl (by decide) rfl ?_
              refine a_iinc (j := 3) (z' := ((i + 1 : Nat) : Int)) (lv' := [(4, vI ((i + 1 : Nat) : Int)), (3, vI ((r + 0) + 0)), (6, vI e8), (5, vI (153 + (2 * ((g : Nat) : Int)))), (0, vA 123), (1, vI ((n : Nat) : Int)), (2, vI told)]) dX9_rightRides_119 rfl (w_okN (by omega) (by omega) (by omega)) (by decide) rfl ?_
              refine a_goto (tgt := 5) dX9_rightRides_122 (by decide) ?_
              refine a_lv (lv' := [(4, vI (((i + 1) : Nat) : Int)), (3, vI ((r + 0) + 0)), (0, vA 123), (1, vI ((n : Nat) : Int)), (2, vI told)]) (by intro q hq; simp only [List.mem_cons, List.not_mem_nil, or_false] at hq ⊢; rcases hq with rfl | rfl | rfl | rfl | rfl <;> simp) (ih (i + 1) ((r + 0) + 0) z8 h8 (by omega) ?_ (by omega) (by omega) (Fr_t hF hF8) (fun k hk => (a8 k hk).trans (i24' k hk)) b8 (K3_t ik d8) (RC_e (N := h1 124) (htt1.trans hTe.symm).symm i8))
              first | (exact Or.inl ⟨by omega, by omega, by rw [hr3, ck_c r8 (by omega) (by omega)]⟩) | (exact Or.inr ⟨by omega, by rw [hr3, ck_a r8 (by omega)]; omega⟩) | (exact Or.inr ⟨by omega, by rw [hr3, ck_b r8 (by omega) (by omega)]; omega⟩) | (exfalso; omega)
            · refine a_iload_n (j := 0) dX9_rightRides_94 rfl rfl ?_
              refine a_iload_n (j := 6) dX9_rightRides_95 rfl rfl ?_
              refine a_icmp_ge (tgt := 116) dX9_rightRides_96 (by decide) (fun c96_14 => ?_) (fun c96_14 => ?_)
              · refine a_iconst dX9_rightRides_116 ⟨by decide, by decide⟩ ?_
                refine a_iadd (z := (r + 0) + 0) dX9_rightRides_117 (w_ok (by omega) (by omega)) ?_
                refine a_istore_n (lv' := [(3, vI ((r + 0) + 0)), (6, vI e8), (5, vI (153 + (2 * ((g : Nat) : Int)))), (4, vI ((i : Nat) : Int)), (0, vA 123), (1, vI ((n : Nat) : Int)), (2, vI told)]) dX9_rightRides_118 rfl (by decide) rfl ?_
                refine a_iinc (j := 3) (z' := ((i + 1 : Nat) : Int)) (lv' := [(4, vI ((i + 1 : Nat) : Int)), (3, vI ((r + 0) + 0)), (6, vI e8), (5, vI (153 + (2 * ((g : Nat) : Int)))), (0, vA 123), (1, vI ((n : Nat) : Int)), (2, vI told)]) dX9_rightRides_119 rfl (w_okN (by omega) (by omega) (by omega)) (by decide) rfl ?_
                refine a_goto (tgt := 5) dX9_rightRides_122 (by decide) ?_
                refine a_lv (lv' := [(4, vI (((i + 1) : Nat) : Int)), (3, vI ((r + 0) + 0)), (0, vA 123), (1, vI ((n : Nat) : Int)), (2, vI told)]) (by intro q hq; simp only [List.mem_cons, List.not_mem_nil, or_false] at hq ⊢; rcases hq with rfl | rfl | rfl | rfl | rfl <;> simp) (ih (i + 1) ((r + 0) + 0) z8 h8 (by omega) ?_ (by omega) (by omega) (Fr_t hF hF8) (fun k hk => (a8 k hk).trans (i24' k hk)) b8 (K3_t ik d8) (RC_e (N := h1 124) (htt1.trans hTe.symm).symm i8))
                first | (exact Or.inl ⟨by omega, by omega, by rw [hr3, ck_c r8 (by omega) (by omega)]⟩) | (exact Or.inr ⟨by omega, by rw [hr3, ck_a r8 (by omega)]; omega⟩) | (exact Or.inr ⟨by omega, by rw [hr3, ck_b r8 (by omega) (by omega)]; omega⟩) | (exfalso; omega)
              · refine a_aload_n (j := 4) dX9_rightRides_99 rfl rfl (Nat.le_of_ble_eq_true rfl) ?_
                refine b_getp (a := 123) (p := 153) dX9_rightRides_100 fwX9_100 (by decide) rfl (by decide) rfl rfl ?_
                refine a_iload_n (j := 0) dX9_rightRides_103 rfl rfl ?_
                refine b_iaload (a := 153) (z := wr (1 + 2 * i)) (2 * i + 1) dX9_rightRides_104 (by decide) rfl (by omega) (by omega) (sp_nil rfl _) ((Fr_v hF8 (by decide)).trans ((Fr_v hF (by decide)).trans ((congrArg (h 153) (show (2 * i + 1) = (1 + 2 * i) by omega)).trans (congrFun hwr _)))) (fun r104_15 => ?_)
                refine a_aload_n (j := 4) dX9_rightRides_105 rfl rfl (Nat.le_of_ble_eq_true rfl) ?_
                refine b_get (a := 123) (z := c8) (t := 0) dX9_rightRides_106 fwX9_303 (by decide) rfl (by decide) rfl rfl f8 ?_
                refine a_icmp_ne (tgt := 116) dX9_rightRides_109 (by decide) (fun c109_16 => ?_) (fun c109_16 => ?_)
                · refine a_iconst dX9_rightRides_116 ⟨by decide, by decide⟩ ?_
                  refine a_iadd (z := (r + 0) + 0) dX9_rightRides_117 (w_ok (by omega) (by omega)) ?_
                  refine a_istore_n (lv' := [(3, vI ((r + 0) + 0)), (6, vI e8), (5, vI (153 + (2 * ((g : Nat) : Int)))), (4, vI ((i : Nat) : Int)), (0, vA 123), (1, vI ((n : Nat) : Int)), (2, vI told)]) dX9_rightRides_118 rfl (by decide) rfl ?_
                  refine a_iinc (j := 3) (z' := ((i + 1 : Nat) : Int)) (lv' := [(4, vI ((i + 1 : Nat) : Int)), (3, vI ((r + 0) + 0)), (6, vI e8), (5, vI (153 + (2 * ((g : Nat) : Int)))), (0, vA 123), (1, vI ((n : Nat) : Int)), (2, vI told)]) dX9_rightRides_119 rfl (w_okN (by omega) (by omega) (by omega)) (by decide) rfl ?_
                  refine a_goto (tgt := 5) dX9_rightRides_122 (by decide) ?_
                  refine a_lv (lv' := [(4, vI (((i + 1) : Nat) : Int)), (3, vI ((r + 0) + 0)), (0, vA 123), (1, vI ((n : Nat) : Int)), (2, vI told)]) (by intro q hq; simp only [List.mem_cons, List.not_mem_nil, or_false] at hq ⊢; rcases hq with rfl | rfl | rfl | rfl | rfl <;> simp) (ih (i + 1) ((r + 0) + 0) z8 h8 (by omega) ?_ (by omega) (by omega) (Fr_t hF hF8) (fun k hk => (a8 k hk).trans (i24' k hk)) b8 (K3_t ik d8) (RC_e (N := h1 124) (htt1.trans hTe.symm).symm i8))
                  first | (exact Or.inl ⟨by omega, by omega, by rw [hr3, ck_c r8 (by omega) (by omega)]⟩) | (exact Or.inr ⟨by omega, by rw [hr3, ck_a r8 (by omega)]; omega⟩) | (exact Or.inr ⟨by omega, by rw [hr3, ck_b r8 (by omega) (by omega)]; omega⟩) | (exfalso; omega)
                · refine a_iconst dX9_rightRides_112 ⟨by decide, by decide⟩ ?_
                  refine a_goto (tgt := 117) dX9_rightRides_113 (by decide) ?_
                  refine a_iadd (z := ((r + 0) + 1)) dX9_rightRides_117 (w_ok (by omega) (by omega)) ?_
                  refine a_istore_n (lv' := [(3, vI ((r + 0) + 1)), (6, vI e8), (5, vI (153 + (2 * ((g : Nat) : Int)))), (4, vI ((i : Nat) : Int)), (0, vA 123), (1, vI ((n : Nat) : Int)), (2, vI told)]) dX9_rightRides_118 rfl (by decide) rfl ?_
                  refine a_iinc (j := 3) (z' := ((i + 1 : Nat) : Int)) (lv' := [(4, vI ((i + 1 : Nat) : Int)), (3, vI ((r + 0) + 1)), (6, vI e8), (5, vI (153 + (2 * ((g : Nat) : Int)))), (0, vA 123), (1, vI ((n : Nat) : Int)), (2, vI told)]) dX9_rightRides_119 rfl (w_okN (by omega) (by omega) (by omega)) (by decide) rfl ?_
                  refine a_goto (tgt := 5) dX9_rightRides_122 (by decide) ?_
                  refine a_lv (lv' := [(4, vI (((i + 1) : Nat) : Int)), (3, vI ((r + 0) + 1)), (0, vA 123), (1, vI ((n : Nat) : Int)), (2, vI told)]) (by intro q hq; simp only [List.mem_cons, List.not_mem_nil, or_false] at hq ⊢; rcases hq with rfl | rfl | rfl | rfl | rfl <;> simp) (ih (i + 1) ((r + 0) + 1) z8 h8 (by omega) ?_ (by omega) (by omega) (Fr_t hF hF8) (fun k hk => (a8 k hk).trans (i24' k hk)) b8 (K3_t ik d8) (RC_e (N := h1 124) (htt1.trans hTe.symm).symm i8))
                  first | (exact Or.inl ⟨by omega, by omega, by rw [hr3, ck_c r8 (by omega) (by omega)]⟩) | (exact Or.inr ⟨by omega, by rw [hr3, ck_a r8 (by omega)]; omega⟩) | (exact Or.inr ⟨by omega, by rw [hr3, ck_b r8 (by omega) (by omega)]; omega⟩) | (exfalso; omega)
          · refine a_iconst dX9_rightRides_76 ⟨by decide, by decide⟩ ?_
            refine a_goto (tgt := 81) dX9_rightRides_77 (by decide) ?_
            refine a_iadd (z := (r + 1)) dX9_rightRides_81 (w_ok (by omega) (by omega)) ?_
            refine a_istore_n (lv' := [(3, vI (r + 1)), (6, vI e8), (5, vI (153 + (2 * ((g : Nat) : Int)))), (4, vI ((i : Nat) : Int)), (0, vA 123), (1, vI ((n : Nat) : Int)), (2, vI told)]) dX9_rightRides_82 rfl (by decide) rfl ?_
            refine a_iload_n (j := 0) dX9_rightRides_83 rfl rfl ?_
            refine a_iload_n (j := 0) dX9_rightRides_84 rfl rfl ?_
            refine a_iconst dX9_rightRides_85 ⟨by decide, by decide⟩ ?_
            refine a_iload (j := 3) dX9_rightRides_86 rfl ?_
            refine a_imul (z := (2 * ((i : Nat) : Int))) dX9_rightRides_88 (w_ok (by omega) (by omega)) ?_
            refine a_iconst dX9_rightRides_89 ⟨by decide, by decide⟩ ?_
            refine a_iadd (z := ((2 * ((i : Nat) : Int)) + 1)) dX9_rightRides_90 (w_ok (by omega) (by omega)) ?_
            refine a_icmp_ne (tgt := 116) dX9_rightRides_91 (by decide) (fun c91_17 => ?_) (fun c91_17 => ?_)
            · refine a_iconst dX9_rightRides_116 ⟨by decide, by decide⟩ ?_
              refine a_iadd (z := (r + 1) + 0) dX9_rightRides_117 (w_ok (by omega) (by omega)) ?_
              refine a_istore_n (lv' := [(3, vI ((r + 1) + 0)), (6, vI e8), (5, vI (153 + (2 * ((g : Nat) : Int)))), (4, vI ((i : Nat) : Int)), (0, vA 123), (1, vI ((n : Nat) : Int)), (2, vI told)]) dX9_rightRides_118 rfl (by decide) rfl ?_
              refine a_iinc (j := 3) (z' := ((i + 1 : Nat) : Int)) (lv' := [(4, vI ((i + 1 : Nat) : Int)), (3, vI ((r + 1) + 0)), (6, vI e8), (5, vI (153 + (2 * ((g : Nat) : Int)))), (0, vA 123), (1, vI ((n : Nat) : Int)), (2, vI told)]) dX9_rightRides_119 rfl (w_okN (by omega) (by omega) (by omega)) (by decide) rfl ?_
              refine a_goto (tgt := 5) dX9_rightRides_122 (by decide) ?_
              refine a_lv (lv' := [(4, vI (((i + 1) : Nat) : Int)), (3, vI ((r + 1) + 0)), (0, vA 123), (1, vI ((n : Nat) : Int)), (2, vI told)]) (by intro q hq; simp only [List.mem_cons, List.not_mem_nil, or_false] at hq ⊢; rcases hq with rfl | rfl | rfl | rfl | rfl <;> simp) (ih (i + 1) ((r + 1) + 0) z8 h8 (by omega) ?_ (by omega) (by omega) (Fr_t hF hF8) (fun k hk => (a8 k hk).trans (i24' k hk)) b8 (K3_t ik d8) (RC_e (N := h1 124) (htt1.trans hTe.symm).symm i8))
              first | (exact Or.inl ⟨by omega, by omega, by rw [hr3, ck_c r8 (by omega) (by omega)]⟩) | (exact Or.inr ⟨by omega, by rw [hr3, ck_a r8 (by omega)]; omega⟩) | (exact Or.inr ⟨by omega, by rw [hr3, ck_b r8 (by omega) (by omega)]; omega⟩) | (exfalso; omega)
            · refine a_iload_n (j := 0) dX9_rightRides_94 rfl rfl ?_
              refine a_iload_n (j := 6) dX9_rightRides_95 rfl rfl ?_
              refine a_icmp_ge (tgt := 116) dX9_rightRides_96 (by decide) (fun c96_18 => ?_) (fun c96_18 => ?_)
              · refine a_iconst dX9_rightRides_116 ⟨by decide, by decide⟩ ?_
                refine a_iadd (z := (r + 1) + 0) dX9_rightRides_117 (w_ok (by omega) (by omega)) ?_
                refine a_istore_n (lv' := [(3, vI ((r + 1) + 0)), (6, vI e8), (5, vI (153 + (2 * ((g : Nat) : Int)))), (4, vI ((i : Nat) : Int)), (0, vA 123), (1, vI ((n : Nat) : Int)), (2, vI told)]) dX9_rightRides_118 rfl (by decide) rfl ?_
                refine a_iinc (j := 3) (z' := ((i + 1 : Nat) : Int)) (lv' := [(4, vI ((i + 1 : Nat) : Int)), (3, vI ((r + 1) + 0)), (6, vI e8), (5, vI (153 + (2 * ((g : Nat) : Int)))), (0, vA 123), (1, vI ((n : Nat) : Int)), (2, vI told)]) dX9_rightRides_119 rfl (w_okN (by omega) (by omega) (by omega)) (by decide) rfl ?_
                refine a_goto (tgt := 5) dX9_rightRides_122 (by decide) ?_
                refine a_lv (lv' := [(4, vI (((i + 1) : Nat) : Int)), (3, vI ((r + 1) + 0)), (0, vA 123), (1, vI ((n : Nat) : Int)), (2, vI told)]) (by intro q hq; simp only [List.mem_cons, List.not_mem_nil, or_false] at hq ⊢; rcases hq with rfl | rfl | rfl | rfl | rfl <;> simp) (ih (i + 1) ((r + 1) + 0) z8 h8 (by omega) ?_ (by omega) (by omega) (Fr_t hF hF8) (fun k hk => (a8 k hk).trans (i24' k hk)) b8 (K3_t ik d8) (RC_e (N := h1 124) (htt1.trans hTe.symm).symm i8))
                first | (exact Or.inl ⟨by omega, by omega, by rw [hr3, ck_c r8 (by omega) (by omega)]⟩) | (exact Or.inr ⟨by omega, by rw [hr3, ck_a r8 (by omega)]; omega⟩) | (exact Or.inr ⟨by omega, by rw [hr3, ck_b r8 (by omega) (by omega)]; omega⟩) | (exfalso; omega)
              · refine a_aload_n (j := 4) dX9_rightRides_99 rfl rfl (Nat.le_of_ble_eq_true rfl) ?_
                refine b_getp (a := 123) (p := 153) dX9_rightRides_100 fwX9_100 (by decide) rfl (by decide) rfl rfl ?_
                refine a_iload_n (j := 0) dX9_rightRides_103 rfl rfl ?_
                refine b_iaload (a := 153) (z := wr (1 + 2 * i)) (2 * i + 1) dX9_rightRides_104 (by decide) rfl (by omega) (by omega) (sp_nil rfl _) ((Fr_v hF8 (by decide)).trans ((Fr_v hF (by decide)).trans ((congrArg (h 153) (show (2 * i + 1) = (1 + 2 * i) by omega)).trans (congrFun hwr _)))) (fun r104_19 => ?_)
                refine a_aload_n (j := 4) dX9_rightRides_105 rfl rfl (Nat.le_of_ble_eq_true rfl) ?_
                refine b_get (a := 123) (z := c8) (t := 0) dX9_rightRides_106 fwX9_303 (by decide) rfl (by decide) rfl rfl f8 ?_
                refine a_icmp_ne (tgt := 116) dX9_rightRides_109 (by decide) (fun c109_20 => ?_) (fun c109_20 => ?_)
                · refine a_iconst dX9_rightRides_116 ⟨by decide, by decide⟩ ?_
                  refine a_iadd (z := (r + 1) + 0) dX9_rightRides_117 (w_ok (by omega) (by omega)) ?_
                  refine a_istore_n (lv' := [(3, vI ((r + 1) + 0)), (6, vI e8), (5, vI (153 + (2 * ((g : Nat) : Int)))), (4, vI ((i : Nat) : Int)), (0, vA 123), (1, vI ((n : Nat) : Int)), (2, vI told)]) dX9_rightRides_118 rfl (by decide) rfl ?_
                  refine a_iinc (j := 3) (z' := ((i + 1 : Nat) : Int)) (lv' := [(4, vI ((i + 1 : Nat) : Int)), (3, vI ((r + 1) + 0)), (6, vI e8), (5, vI (153 + (2 * ((g : Nat) : Int)))), (0, vA 123), (1, vI ((n : Nat) : Int)), (2, vI told)]) dX9_rightRides_119 rfl (w_okN (by omega) (by omega) (by omega)) (by decide) rfl ?_
                  refine a_goto (tgt := 5) dX9_rightRides_122 (by decide) ?_
                  refine a_lv (lv' := [(4, vI (((i + 1) : Nat) : Int)), (3, vI ((r + 1) + 0)), (0, vA 123), (1, vI ((n : Nat) : Int)), (2, vI told)]) (by intro q hq; simp only [List.mem_cons, List.not_mem_nil, or_false] at hq ⊢; rcases hq with rfl | rfl | rfl | rfl | rfl <;> simp) (ih (i + 1) ((r + 1) + 0) z8 h8 (by omega) ?_ (by omega) (by omega) (Fr_t hF hF8) (fun k hk => (a8 k hk).trans (i24' k hk)) b8 (K3_t ik d8) (RC_e (N := h1 124) (htt1.trans hTe.symm).symm i8))
                  first | (exact Or.inl ⟨by omega, by omega, by rw [hr3, ck_c r8 (by omega) (by omega)]⟩) | (exact Or.inr ⟨by omega, by rw [hr3, ck_a r8 (by omega)]; omega⟩) | (exact Or.inr ⟨by omega, by rw [hr3, ck_b r8 (by omega) (by omega)]; omega⟩) | (exfalso; omega)
                · refine a_iconst dX9_rightRides_112 ⟨by decide, by decide⟩ ?_
                  refine a_goto (tgt := 117) dX9_rightRides_113 (by decide) ?_
                  refine a_iadd (z := ((r + 1) + 1)) dX9_rightRides_117 (w_ok (by omega) (by omega)) ?_
                  refine a_istore_n (lv' := [(3, vI ((r + 1) + 1)), (6, vI e8), (5, vI (153 + (2 * ((g : Nat) : Int)))), (4, vI ((i : Nat) : Int)), (0, vA 123), (1, vI ((n : Nat) : Int)), (2, vI told)]) dX9_rightRides_118 rfl (by decide) rfl ?_
                  refine a_iinc (j := 3) (z' := ((i + 1 : Nat) : Int)) (lv' := [(4, vI ((i + 1 : Nat) : Int)), (3, vI ((r + 1) + 1)), (6, vI e8), (5, vI (153 + (2 * ((g : Nat) : Int)))), (0, vA 123), (1, vI ((n : Nat) : Int)), (2, vI told)]) dX9_rightRides_119 rfl (w_okN (by omega) (by omega) (by omega)) (by decide) rfl ?_
                  refine a_goto (tgt := 5) dX9_rightRides_122 (by decide) ?_
                  refine a_lv (lv' := [(4, vI (((i + 1) : Nat) : Int)), (3, vI ((r + 1) + 1)), (0, vA 123), (1, vI ((n : Nat) : Int)), (2, vI told)]) (by intro q hq; simp only [List.mem_cons, List.not_mem_nil, or_false] at hq ⊢; rcases hq with rfl | rfl | rfl | rfl | rfl <;> simp) (ih (i + 1) ((r + 1) + 1) z8 h8 (by omega) ?_ (by omega) (by omega) (Fr_t hF hF8) (fun k hk => (a8 k hk).trans (i24' k hk)) b8 (K3_t ik d8) (RC_e (N := h1 124) (htt1.trans hTe.symm).symm i8))
                  first | (exact Or.inl ⟨by omega, by omega, by rw [hr3, ck_c r8 (by omega) (by omega)]⟩) | (exact Or.inr ⟨by omega, by rw [hr3, ck_a r8 (by omega)]; omega⟩) | (exact Or.inr ⟨by omega, by rw [hr3, ck_b r8 (by omega) (by omega)]; omega⟩) | (exfalso; omega)
theorem c_X9_rightRides {γ : GT} {d : Nat} {T : Nat → Nat → Int} {J wr : Nat → Int} {G n : Nat} {told z : Int} {h : Nat → Nat → Int} {τ : List AC} {Post : Option AV → List AC → Prop} (hd : 8 ≤ d) (hTe : tt J = T) (hN : ∀ k, k ≠ 0 → h 124 k = J k) (hX : NX J) (hG : J 8 = ((G : Nat) : Int)) (hG0 : 0 < G) (hn : n ≤ 30) (htold : 0 ≤ told ∧ told ≤ 60) (hwr : h 153 = wr) (hC : RC h J) (hz : h 124 0 = z) (kQ : ∀ h' z', Fr [123, 124, 127, 128, 129, 130, 131, 132, 133, 134, 135, 136, 143, 144] h h' → (∀ k, k ≠ 0 → h' 124 k = h 124 k) → h' 124 0 = z' → K3 h h' → RC h' J → Post (some (vI (ckF T J wr G told n 0 z))) (mk h' τ)) : Cj γ mX9_rightRides d 0 0 [vA 123, vI ((n : Nat) : Int), vI told] (mk h τ) Post := by
  refine c_of (by decide) (Nat.le_of_ble_eq_true rfl) ?_
  show Aj γ mX9_rightRides d 0 0 Post 0 [(0, vA 123), (1, vI ((n : Nat) : Int)), (2, vI told)] [] (mk h τ)
  refine a_iconst dX9_rightRides_0 ⟨by decide, by decide⟩ ?_
  refine a_istore_n (lv' := [(3, vI 0), (0, vA 123), (1, vI ((n : Nat) : Int)), (2, vI told)]) dX9_rightRides_1 rfl (by decide) rfl ?_
  refine a_iconst dX9_rightRides_2 ⟨by decide, by decide⟩ ?_
  refine a_istore (lv' := [(4, vI 0), (3, vI 0), (0, vA 123), (1, vI ((n : Nat) : Int)), (2, vI told)]) dX9_rightRides_3 (by decide) rfl ?_
  exact a_lv (lv' := [(4, vI ((0 : Nat) : Int)), (3, vI 0), (0, vA 123), (1, vI ((n : Nat) : Int)), (2, vI told)]) (by intro q hq; simp only [List.mem_cons, List.not_mem_nil, or_false] at hq ⊢; rcases hq with rfl | rfl | rfl | rfl | rfl <;> simp) (l_right9 (h := h) (T := T) (J := J) (wr := wr) (G := G) (n := n) (told := told) (R := ckF T J wr G told n 0 z) hd hTe hN hX hG hG0 hn htold hwr kQ n 0 0 z h (by omega) (Or.inl ⟨rfl, by omega, rfl⟩) (by omega) (by omega) Fr_r (fun k hk => rfl) hz K3_r hC)
