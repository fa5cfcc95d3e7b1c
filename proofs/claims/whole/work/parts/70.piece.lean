set_option maxHeartbeats 8000000 in
theorem PC_of {γ : GT} {B : Nat → Int} {n K o k : Nat} (hm : n ≤ 96) (hBr : ∀ k, 0 ≤ B k ∧ B k ≤ 255) (hK3 : K < 3) (ho : o ≤ 8) (hk : k ≤ 8) (hP : k < 8 → PCt γ B n K o (k + 1)) (hL : o < 8 → LCt γ B n K 0 (o + 1) k) : PCt γ B n K o k := by
  intro d h τ Post a t hd cs ha kT kF
  refine c_of (by decide) (Nat.le_of_ble_eq_true rfl) ?_
  show Aj γ mX3_readPiece d 0 0 Post 0 [(0, vA 84), (1, vI ((o : Nat) : Int)), (2, vI ((k : Nat) : Int))] [] (mk h τ)
  refine a_aload_n (j := 0) dX3_readPiece_0 rfl rfl (Nat.le_of_ble_eq_true rfl) ?_
  refine b_get (a := 84) (z := t.1) (t := 0) dX3_readPiece_1 fwX3_30 (by decide) rfl (by decide) rfl rfl cs.2.2.2.2.1 ?_
  refine a_iconst dX3_readPiece_4 ⟨by decide, by decide⟩ ?_
  refine a_icmp_eq (tgt := 16) dX3_readPiece_5 (by decide) (fun c5_1 => ?_) (fun c5_1 => ?_)
  · refine a_aload_n (j := 0) dX3_readPiece_16 rfl rfl (Nat.le_of_ble_eq_true rfl) ?_
    refine a_aload_n (j := 0) dX3_readPiece_17 rfl rfl (Nat.le_of_ble_eq_true rfl) ?_
    refine b_get (a := 84) (z := t.1) (t := 0) dX3_readPiece_18 fwX3_30 (by decide) rfl (by decide) rfl rfl cs.2.2.2.2.1 ?_
    refine a_iconst dX3_readPiece_21 ⟨by decide, by decide⟩ ?_
    refine a_icmp_ne (tgt := 32) dX3_readPiece_22 (by decide) (fun c22_2 => absurd c22_2 (by omega)) (fun c22_2 => ?_)
    refine a_aload_n (j := 0) dX3_readPiece_25 rfl rfl (Nat.le_of_ble_eq_true rfl) ?_
    refine b_callV (d' := d - 1) (mc' := 0) (ms' := 0) (mc1 := 0) (ms1 := 0) (st := [vA 84]) (b := 84) [] dX3_readPiece_26 mwX3_numberHere lkX3_130 (by decide) rfl rc_X3 rfl (Nat.le_of_ble_eq_true rfl) (by omega) rfl rfl (c_numH (B := B) (n := n) (by omega) cs.1 hm cs.2.1 hBr cs.2.2.1 cs.2.2.2.1 (cs.lt (by omega)) (cs.V.2.2.2.2 (by omega)) (fun q3 => ?_) (fun q3 => ?_))
    · have lq3 : lfc B ((K : Nat) : Int) t = (numF B t.2.1 (t.2.2 - t.2.1)) := lf_nT (by omega) q3
      show Aj γ mX3_readPiece d 0 0 Post 29 [(0, vA 84), (1, vI ((o : Nat) : Int)), (2, vI ((k : Nat) : Int))] [vI (numF B t.2.1 (t.2.2 - t.2.1)), vA 84] (mk h τ)
      refine a_goto (tgt := 36) dX3_readPiece_29 (by decide) ?_
      have lr4 := (lfc_rng (K := ((K : Nat) : Int)) cs.V).resolve_left (by rw [lq3]; first | omega | (have := num_4 (B := B) (s := t.2.1) (m := t.2.2 - t.2.1) (by omega) (fun j hj => cs.V.2.2.2.2 (by omega) _ (by omega) (by omega)); omega))
      refine b_callV (d' := d - 1) (mc' := 0) (ms' := 0) (mc1 := 0) (ms1 := 0) (st := []) (b := 84) [vI (numF B t.2.1 (t.2.2 - t.2.1))] dX3_readPiece_36 mwX3_readLeaf lkX3_136 (by decide) rfl rc_X3 rfl (Nat.le_of_ble_eq_true rfl) (by omega) rfl rfl (c_leafT (B := B) (n := n) (K := K) (a := a) (t := t) (by omega) hm hBr hK3 cs (by have := cs.lt (by omega); omega) (by omega) (fun hl4 fl4 cl4 => ?_))
      show Aj γ mX3_readPiece d 0 0 Post 39 [(0, vA 84), (1, vI ((o : Nat) : Int)), (2, vI ((k : Nat) : Int))] [vI 1] (mk hl4 τ)
      exact a_zret dX3_readPiece_39 rfl (by first | exact Or.inl rfl | exact Or.inr rfl | omega) (kT _ _ _ fl4 (gr_leaf o k t (by omega) (by omega)) (by rw [lq3]; exact cl4))
    · have lq3 : lfc B ((K : Nat) : Int) t = -1 := lf_nF (by omega) q3
      show Aj γ mX3_readPiece d 0 0 Post 29 [(0, vA 84), (1, vI ((o : Nat) : Int)), (2, vI ((k : Nat) : Int))] [vI (-1000000005), vA 84] (mk h τ)
      refine a_goto (tgt := 36) dX3_readPiece_29 (by decide) ?_
      refine b_callV (d' := d - 1) (mc' := 0) (ms' := 0) (mc1 := 0) (ms1 := 0) (st := []) (b := 84) [vI (-1000000005)] dX3_readPiece_36 mwX3_readLeaf lkX3_136 (by decide) rfl rc_X3 rfl (Nat.le_of_ble_eq_true rfl) (by omega) rfl rfl (c_leafF ?_)
      show Aj γ mX3_readPiece d 0 0 Post 39 [(0, vA 84), (1, vI ((o : Nat) : Int)), (2, vI ((k : Nat) : Int))] [vI 0] (mk h τ)
      exact a_zret dX3_readPiece_39 rfl (by first | exact Or.inl rfl | exact Or.inr rfl | omega) (kF _ t [] Fr_r (gr_leafF o k t (by omega) lq3) (cs.F (by have := cs.V.1; have := cs.V.2.1; omega)))
  · refine a_aload_n (j := 0) dX3_readPiece_8 rfl rfl (Nat.le_of_ble_eq_true rfl) ?_
    refine b_get (a := 84) (z := t.1) (t := 0) dX3_readPiece_9 fwX3_30 (by decide) rfl (by decide) rfl rfl cs.2.2.2.2.1 ?_
    refine a_iconst dX3_readPiece_12 ⟨by decide, by decide⟩ ?_
    refine a_icmp_ne (tgt := 40) dX3_readPiece_13 (by decide) (fun c13_6 => ?_) (fun c13_6 => ?_)
    · refine a_aload_n (j := 0) dX3_readPiece_40 rfl rfl (Nat.le_of_ble_eq_true rfl) ?_
      refine b_get (a := 84) (z := t.1) (t := 0) dX3_readPiece_41 fwX3_30 (by decide) rfl (by decide) rfl rfl cs.2.2.2.2.1 ?_
      refine a_iconst dX3_readPiece_44 ⟨by decide, by decide⟩ ?_
      refine a_icmp_ne (tgt := 59) dX3_readPiece_45 (by decide) (fun c45_7 => ?_) (fun c45_7 => ?_)
      · refine a_iconst dX3_readPiece_59 ⟨by decide, by decide⟩ ?_
        refine a_istore_n (lv' := [(3, vI 0), (0, vA 84), (1, vI ((o : Nat) : Int)), (2, vI ((k : Nat) : Int))]) dX3_readPiece_60 rfl (by decide) rfl ?_
        refine a_iload_n (j := 0) dX3_readPiece_61 rfl rfl ?_
        refine a_bipush dX3_readPiece_62 ⟨by decide, by decide, by decide⟩ ?_
        refine a_icmp_ne (tgt := 97) dX3_readPiece_64 (by decide) (fun _ => ?_) (fun c => absurd c (by decide))
        refine a_iload_n (j := 0) dX3_readPiece_97 rfl rfl ?_
        refine a_bipush dX3_readPiece_98 ⟨by decide, by decide, by decide⟩ ?_
        refine a_icmp_ne (tgt := 109) dX3_readPiece_100 (by decide) (fun _ => ?_) (fun c => absurd c (by decide))
        refine a_iconst dX3_readPiece_109 ⟨by decide, by decide⟩ ?_
        exact a_zret dX3_readPiece_110 rfl (by first | exact Or.inl rfl | exact Or.inr rfl | omega) (kF _ t [] Fr_r (gr_othF o k t (by omega) (by omega) (by omega)) (cs.F (by have := cs.V.1; have := cs.V.2.1; omega)))
      · refine a_aload_n (j := 0) dX3_readPiece_48 rfl rfl (Nat.le_of_ble_eq_true rfl) ?_
        refine a_aload_n (j := 0) dX3_readPiece_49 rfl rfl (Nat.le_of_ble_eq_true rfl) ?_
        refine b_get (a := 84) (z := ((t.2.1 : Nat) : Int)) (t := 0) dX3_readPiece_50 fwX3_64 (by decide) rfl (by decide) rfl rfl cs.2.2.1 ?_
        refine b_callV (d' := d - 1) (mc' := 0) (ms' := 0) (mc1 := 0) (ms1 := 0) (st := []) (b := 84) [vI ((t.2.1 : Nat) : Int)] dX3_readPiece_53 mwX3_byteAt lkX3_67 (by decide) rfl rc_X3 rfl (Nat.le_of_ble_eq_true rfl) (by omega) rfl rfl (c_byteB (p := t.2.1) (B := B) (n := n) (by omega) cs.1 rfl cs.2.1 hm (by have := cs.lt (by omega); omega) rfl ?_)
        show Aj γ mX3_readPiece d 0 0 Post 56 [(0, vA 84), (1, vI ((o : Nat) : Int)), (2, vI ((k : Nat) : Int))] [vI (B t.2.1)] (mk h τ)
        refine a_goto (tgt := 60) dX3_readPiece_56 (by decide) ?_
        refine a_istore_n (lv' := [(3, vI (B t.2.1)), (0, vA 84), (1, vI ((o : Nat) : Int)), (2, vI ((k : Nat) : Int))]) dX3_readPiece_60 rfl (by decide) rfl ?_
        refine a_iload_n (j := 0) dX3_readPiece_61 rfl rfl ?_
        refine a_bipush dX3_readPiece_62 ⟨by decide, by decide, by decide⟩ ?_
        refine a_icmp_ne (tgt := 97) dX3_readPiece_64 (by decide) (fun c64_8 => ?_) (fun c64_8 => ?_)
        · refine a_iload_n (j := 0) dX3_readPiece_97 rfl rfl ?_
          refine a_bipush dX3_readPiece_98 ⟨by decide, by decide, by decide⟩ ?_
          refine a_icmp_ne (tgt := 109) dX3_readPiece_100 (by decide) (fun c100_9 => ?_) (fun c100_9 => ?_)
          · refine a_iconst dX3_readPiece_109 ⟨by decide, by decide⟩ ?_
            exact a_zret dX3_readPiece_110 rfl (by first | exact Or.inl rfl | exact Or.inr rfl | omega) (kF _ t [] Fr_r (gr_othF o k t (by omega) (by omega) (by omega)) (cs.F (by have := cs.V.1; have := cs.V.2.1; omega)))
          · refine a_iload_n (j := 2) dX3_readPiece_103 rfl rfl ?_
            refine a_bipush dX3_readPiece_104 ⟨by decide, by decide, by decide⟩ ?_
            refine a_icmp_lt (tgt := 111) dX3_readPiece_106 (by decide) (fun c106_10 => ?_) (fun c106_10 => ?_)
            · refine a_aload_n (j := 1) dX3_readPiece_111 rfl rfl (Nat.le_of_ble_eq_true rfl) ?_
              refine b_callV (d' := d - 1) (mc' := 0) (ms' := 0) (mc1 := 0) (ms1 := 0) (st := []) (b := 84) [] dX3_readPiece_112 mwX3_goOn lkX3_39 (by decide) rfl rc_X3 rfl (Nat.le_of_ble_eq_true rfl) (by omega) rfl rfl (c_goC (B := B) (n := n) (K := K) (a := a) (t := t) (by omega) hm cs (fun hg11 fg11 cg11 => ?_))
              have vg11 := nxt_V (B := B) (t := t) cs.V.2.1
              show Aj γ mX3_readPiece d 0 0 Post 115 [(3, vI (B t.2.1)), (0, vA 84), (1, vI ((o : Nat) : Int)), (2, vI ((k : Nat) : Int))] [] (mk hg11 τ)
              refine a_aload_n (j := 1) dX3_readPiece_115 rfl rfl (Nat.le_of_ble_eq_true rfl) ?_
              refine a_iconst dX3_readPiece_116 ⟨by decide, by decide⟩ ?_
              refine a_iload_n (j := 2) dX3_readPiece_117 rfl rfl ?_
              refine a_iconst dX3_readPiece_118 ⟨by decide, by decide⟩ ?_
              refine a_iadd (z := ((o + 1 : Nat) : Int)) dX3_readPiece_119 (w_okN (by omega) (by omega) (by omega)) ?_
              refine a_iload_n (j := 3) dX3_readPiece_120 rfl rfl ?_
              refine b_callV (d' := d - 1) (mc' := 0) (ms' := 0) (mc1 := 0) (ms1 := 0) (st := []) (b := 84) [vI 0, vI ((o + 1 : Nat) : Int), vI ((k : Nat) : Int)] dX3_readPiece_121 mwX3_readLevel lkX3_50 (by decide) rfl rc_X3 rfl (Nat.le_of_ble_eq_true rfl) (by omega) rfl rfl (hL (by omega) (d - 1) hg11 τ _ a (nxt B n t) (by omega) cg11 (by have := vg11.2; have := cs.lt (by omega); omega) (fun h12_ t12_ c12_ f12_ g12_ s12_ => ?_) (fun h12_ t12_ c12_ f12_ g12_ s12_ => ?_))
              · show Aj γ mX3_readPiece d 0 0 Post 124 [(3, vI (B t.2.1)), (0, vA 84), (1, vI ((o : Nat) : Int)), (2, vI ((k : Nat) : Int))] [vI 1] (mk h12_ τ)
                have w12_ := gr_w g12_ cg11.V
                have u12_ := w12_.2.2 rfl
                have l12_ := List.length_append (as := a) (bs := c12_)
                have z12_ : t12_.2.1 ≤ n := Nat.le_trans w12_.1.1 w12_.1.2.1
                have x12_ := cs.lt (by omega)
                have y12_ := vg11.2
                refine a_if_eq (tgt := 148) dX3_readPiece_124 (by decide) (fun c => absurd c (by decide)) (fun _ => ?_)
                refine a_aload_n (j := 1) dX3_readPiece_127 rfl rfl (Nat.le_of_ble_eq_true rfl) ?_
                refine b_get (a := 84) (z := t12_.1) (t := 0) dX3_readPiece_128 fwX3_30 (by decide) rfl (by decide) rfl rfl s12_.2.2.2.2.1 ?_
                refine a_iconst dX3_readPiece_131 ⟨by decide, by decide⟩ ?_
                refine a_icmp_ne (tgt := 148) dX3_readPiece_132 (by decide) (fun c132_13 => ?_) (fun c132_13 => ?_)
                · refine a_iconst dX3_readPiece_148 ⟨by decide, by decide⟩ ?_
                  exact a_zret dX3_readPiece_149 rfl (by first | exact Or.inl rfl | exact Or.inr rfl | omega) (kF _ _ _ (Fr_t fg11 f12_) (gr_parG o k t _ _ (by omega) (by omega) (by omega) g12_ (by omega)) (s12_.F (by omega)))
                · refine a_aload_n (j := 1) dX3_readPiece_135 rfl rfl (Nat.le_of_ble_eq_true rfl) ?_
                  refine a_aload_n (j := 1) dX3_readPiece_136 rfl rfl (Nat.le_of_ble_eq_true rfl) ?_
                  refine b_get (a := 84) (z := ((t12_.2.1 : Nat) : Int)) (t := 0) dX3_readPiece_137 fwX3_64 (by decide) rfl (by decide) rfl rfl s12_.2.2.1 ?_
                  refine b_callV (d' := d - 1) (mc' := 0) (ms' := 0) (mc1 := 0) (ms1 := 0) (st := []) (b := 84) [vI ((t12_.2.1 : Nat) : Int)] dX3_readPiece_140 mwX3_byteAt lkX3_67 (by decide) rfl rc_X3 rfl (Nat.le_of_ble_eq_true rfl) (by omega) rfl rfl (c_byteB (p := t12_.2.1) (B := B) (n := n) (by omega) s12_.1 rfl s12_.2.1 hm (by have := s12_.lt (by omega); omega) rfl ?_)
                  show Aj γ mX3_readPiece d 0 0 Post 143 [(3, vI (B t.2.1)), (0, vA 84), (1, vI ((o : Nat) : Int)), (2, vI ((k : Nat) : Int))] [vI (B t12_.2.1)] (mk h12_ τ)
                  refine a_bipush dX3_readPiece_143 ⟨by decide, by decide, by decide⟩ ?_
                  refine a_icmp_eq (tgt := 150) dX3_readPiece_145 (by decide) (fun c145_14 => ?_) (fun c145_14 => ?_)
                  · refine a_aload_n (j := 1) dX3_readPiece_150 rfl rfl (Nat.le_of_ble_eq_true rfl) ?_
                    refine b_callV (d' := d - 1) (mc' := 0) (ms' := 0) (mc1 := 0) (ms1 := 0) (st := []) (b := 84) [] dX3_readPiece_151 mwX3_goOn lkX3_39 (by decide) rfl rc_X3 rfl (Nat.le_of_ble_eq_true rfl) (by omega) rfl rfl (c_goC (B := B) (n := n) (K := K) (a := (a ++ c12_)) (t := t12_) (by omega) hm s12_ (fun hg15 fg15 cg15 => ?_))
                    have vg15 := nxt_V (B := B) (t := t12_) s12_.V.2.1
                    show Aj γ mX3_readPiece d 0 0 Post 154 [(3, vI (B t.2.1)), (0, vA 84), (1, vI ((o : Nat) : Int)), (2, vI ((k : Nat) : Int))] [] (mk hg15 τ)
                    refine a_iconst dX3_readPiece_154 ⟨by decide, by decide⟩ ?_
                    exact a_zret dX3_readPiece_155 rfl (by first | exact Or.inl rfl | exact Or.inr rfl | omega) (kT _ _ _ (Fr_t (Fr_t fg11 f12_) fg15) (gr_parT o k t _ _ (by omega) (by omega) (by omega) g12_ (by omega) (by omega)) cg15)
                  · refine a_iconst dX3_readPiece_148 ⟨by decide, by decide⟩ ?_
                    exact a_zret dX3_readPiece_149 rfl (by first | exact Or.inl rfl | exact Or.inr rfl | omega) (kF _ _ _ (Fr_t fg11 f12_) (gr_parG o k t _ _ (by omega) (by omega) (by omega) g12_ (by omega)) (s12_.F (by omega)))
              · show Aj γ mX3_readPiece d 0 0 Post 124 [(3, vI (B t.2.1)), (0, vA 84), (1, vI ((o : Nat) : Int)), (2, vI ((k : Nat) : Int))] [vI 0] (mk h12_ τ)
                refine a_if_eq (tgt := 148) dX3_readPiece_124 (by decide) (fun _ => ?_) (fun c => absurd c (by decide))
                refine a_iconst dX3_readPiece_148 ⟨by decide, by decide⟩ ?_
                exact a_zret dX3_readPiece_149 rfl (by first | exact Or.inl rfl | exact Or.inr rfl | omega) (kF _ _ _ (Fr_t fg11 f12_) (gr_parF o k t _ _ (by omega) (by omega) (by omega) g12_) s12_)
            · refine a_iconst dX3_readPiece_109 ⟨by decide, by decide⟩ ?_
              exact a_zret dX3_readPiece_110 rfl (by first | exact Or.inl rfl | exact Or.inr rfl | omega) (kF _ t [] Fr_r (gr_othF o k t (by omega) (by omega) (by omega)) (cs.F (by have := cs.V.1; have := cs.V.2.1; omega)))
        · refine a_iload_n (j := 3) dX3_readPiece_67 rfl rfl ?_
          refine a_bipush dX3_readPiece_68 ⟨by decide, by decide, by decide⟩ ?_
          refine a_icmp_ge (tgt := 97) dX3_readPiece_70 (by decide) (fun c70_16 => ?_) (fun c70_16 => ?_)
          · refine a_iload_n (j := 0) dX3_readPiece_97 rfl rfl ?_
            refine a_bipush dX3_readPiece_98 ⟨by decide, by decide, by decide⟩ ?_
            refine a_icmp_ne (tgt := 109) dX3_readPiece_100 (by decide) (fun c100_17 => ?_) (fun c100_17 => absurd c100_17 (by omega))
            refine a_iconst dX3_readPiece_109 ⟨by decide, by decide⟩ ?_
            exact a_zret dX3_readPiece_110 rfl (by first | exact Or.inl rfl | exact Or.inr rfl | omega) (kF _ t [] Fr_r (gr_othF o k t (by omega) (by omega) (by omega)) (cs.F (by have := cs.V.1; have := cs.V.2.1; omega)))
          · refine a_aload_n (j := 1) dX3_readPiece_73 rfl rfl (Nat.le_of_ble_eq_true rfl) ?_
            refine b_callV (d' := d - 1) (mc' := 0) (ms' := 0) (mc1 := 0) (ms1 := 0) (st := []) (b := 84) [] dX3_readPiece_74 mwX3_goOn lkX3_39 (by decide) rfl rc_X3 rfl (Nat.le_of_ble_eq_true rfl) (by omega) rfl rfl (c_goC (B := B) (n := n) (K := K) (a := a) (t := t) (by omega) hm cs (fun hg18 fg18 cg18 => ?_))
            have vg18 := nxt_V (B := B) (t := t) cs.V.2.1
            show Aj γ mX3_readPiece d 0 0 Post 77 [(3, vI (B t.2.1)), (0, vA 84), (1, vI ((o : Nat) : Int)), (2, vI ((k : Nat) : Int))] [] (mk hg18 τ)
            refine a_aload_n (j := 1) dX3_readPiece_77 rfl rfl (Nat.le_of_ble_eq_true rfl) ?_
            refine a_iload_n (j := 2) dX3_readPiece_78 rfl rfl ?_
            refine a_iload_n (j := 3) dX3_readPiece_79 rfl rfl ?_
            refine a_iconst dX3_readPiece_80 ⟨by decide, by decide⟩ ?_
            refine a_iadd (z := ((k + 1 : Nat) : Int)) dX3_readPiece_81 (w_okN (by omega) (by omega) (by omega)) ?_
            refine b_callV (d' := d - 1) (mc' := 0) (ms' := 0) (mc1 := 0) (ms1 := 0) (st := []) (b := 84) [vI ((o : Nat) : Int), vI ((k + 1 : Nat) : Int)] dX3_readPiece_82 mwX3_readPiece lkX3_102 (by decide) rfl rc_X3 rfl (Nat.le_of_ble_eq_true rfl) (by omega) rfl rfl (hP (by omega) (d - 1) hg18 τ _ a (nxt B n t) (by omega) cg18 (by have := vg18.2; have := cs.lt (by omega); omega) (fun h19_ t19_ c19_ f19_ g19_ s19_ => ?_) (fun h19_ t19_ c19_ f19_ g19_ s19_ => ?_))
            · show Aj γ mX3_readPiece d 0 0 Post 85 [(3, vI (B t.2.1)), (0, vA 84), (1, vI ((o : Nat) : Int)), (2, vI ((k : Nat) : Int))] [vI 1] (mk h19_ τ)
              have w19_ := gr_w g19_ cg18.V
              have u19_ := w19_.2.2 rfl
              have l19_ := List.length_append (as := a) (bs := c19_)
              have z19_ : t19_.2.1 ≤ n := Nat.le_trans w19_.1.1 w19_.1.2.1
              have x19_ := cs.lt (by omega)
              have y19_ := vg18.2
              refine a_istore (lv' := [(4, vI 1), (3, vI (B t.2.1)), (0, vA 84), (1, vI ((o : Nat) : Int)), (2, vI ((k : Nat) : Int))]) dX3_readPiece_85 (by decide) rfl ?_
              refine a_aload_n (j := 2) dX3_readPiece_87 rfl rfl (Nat.le_of_ble_eq_true rfl) ?_
              refine a_sipush dX3_readPiece_88 ⟨by decide, by decide, by decide⟩ ?_
              refine b_callV (d' := d - 1) (mc' := 0) (ms' := 0) (mc1 := 0) (ms1 := 0) (st := []) (b := 84) [vI 20033] dX3_readPiece_91 mwX3_put lkX3_110 (by decide) rfl rc_X3 rfl (Nat.le_of_ble_eq_true rfl) (by omega) rfl rfl (c_putS (B := B) (n := n) (K := K) (a := (a ++ c19_)) (t := t19_) (z := -10) s19_ (by omega) (Or.inr (Or.inl rfl)) (by decide) (by decide) (fun hp20 fp20 cp20 => ?_))
              show Aj γ mX3_readPiece d 0 0 Post 94 [(4, vI 1), (3, vI (B t.2.1)), (0, vA 84), (1, vI ((o : Nat) : Int)), (2, vI ((k : Nat) : Int))] [] (mk hp20 τ)
              refine a_iload (j := 0) dX3_readPiece_94 rfl ?_
              exact a_zret dX3_readPiece_96 rfl (by first | exact Or.inl rfl | exact Or.inr rfl | omega) (kT _ _ _ (Fr_t (Fr_t fg18 f19_) fp20) (gr_notT o k t _ true _ (by omega) (by omega) (by omega) g19_) (by rw [← List.append_assoc]; exact cp20))
            · show Aj γ mX3_readPiece d 0 0 Post 85 [(3, vI (B t.2.1)), (0, vA 84), (1, vI ((o : Nat) : Int)), (2, vI ((k : Nat) : Int))] [vI 0] (mk h19_ τ)
              refine a_istore (lv' := [(4, vI 0), (3, vI (B t.2.1)), (0, vA 84), (1, vI ((o : Nat) : Int)), (2, vI ((k : Nat) : Int))]) dX3_readPiece_85 (by decide) rfl ?_
              refine a_aload_n (j := 2) dX3_readPiece_87 rfl rfl (Nat.le_of_ble_eq_true rfl) ?_
              refine a_sipush dX3_readPiece_88 ⟨by decide, by decide, by decide⟩ ?_
              refine b_callV (d' := d - 1) (mc' := 0) (ms' := 0) (mc1 := 0) (ms1 := 0) (st := []) (b := 84) [vI 20033] dX3_readPiece_91 mwX3_put lkX3_110 (by decide) rfl rc_X3 rfl (Nat.le_of_ble_eq_true rfl) (by omega) rfl rfl (c_putF (t := t19_) s19_ (fun hp21 fp21 cp21 => ?_))
              show Aj γ mX3_readPiece d 0 0 Post 94 [(4, vI 0), (3, vI (B t.2.1)), (0, vA 84), (1, vI ((o : Nat) : Int)), (2, vI ((k : Nat) : Int))] [] (mk hp21 τ)
              refine a_iload (j := 0) dX3_readPiece_94 rfl ?_
              exact a_zret dX3_readPiece_96 rfl (by first | exact Or.inl rfl | exact Or.inr rfl | omega) (kF _ _ _ (Fr_t (Fr_t fg18 f19_) fp21) (gr_notT o k t _ false _ (by omega) (by omega) (by omega) g19_) cp21)
    · refine a_aload_n (j := 0) dX3_readPiece_16 rfl rfl (Nat.le_of_ble_eq_true rfl) ?_
      refine a_aload_n (j := 0) dX3_readPiece_17 rfl rfl (Nat.le_of_ble_eq_true rfl) ?_
      refine b_get (a := 84) (z := t.1) (t := 0) dX3_readPiece_18 fwX3_30 (by decide) rfl (by decide) rfl rfl cs.2.2.2.2.1 ?_
      refine a_iconst dX3_readPiece_21 ⟨by decide, by decide⟩ ?_
      refine a_icmp_ne (tgt := 32) dX3_readPiece_22 (by decide) (fun c22_22 => ?_) (fun c22_22 => absurd c22_22 (by omega))
      refine a_aload_n (j := 0) dX3_readPiece_32 rfl rfl (Nat.le_of_ble_eq_true rfl) ?_
      refine b_callV (d' := d - 1) (mc' := 0) (ms' := 0) (mc1 := 0) (ms1 := 0) (st := [vA 84]) (b := 84) [] dX3_readPiece_33 mwX3_nameHere lkX3_133 (by decide) rfl rc_X3 rfl (Nat.le_of_ble_eq_true rfl) (by omega) rfl rfl (c_nameH (B := B) (n := n) (by omega) cs.1 hm cs.2.1 hBr cs.2.2.1 cs.2.2.2.1 cs.2.2.2.2.2.1 (cs.lt (by omega)) hK3 (fun q23 => ?_) (fun q23 => ?_))
      · have lq23 : lfc B ((K : Nat) : Int) t = (10000 + ixS (3 + K) (B t.2.1)) := lf_aT hK3 (by omega) q23
        show Aj γ mX3_readPiece d 0 0 Post 36 [(0, vA 84), (1, vI ((o : Nat) : Int)), (2, vI ((k : Nat) : Int))] [vI (10000 + ixS (3 + K) (B t.2.1)), vA 84] (mk h τ)
        have lr24 := (lfc_rng (K := ((K : Nat) : Int)) cs.V).resolve_left (by rw [lq23]; first | omega | (have := num_4 (B := B) (s := t.2.1) (m := t.2.2 - t.2.1) (by omega) (fun j hj => cs.V.2.2.2.2 (by omega) _ (by omega) (by omega)); omega))
        refine b_callV (d' := d - 1) (mc' := 0) (ms' := 0) (mc1 := 0) (ms1 := 0) (st := []) (b := 84) [vI (10000 + ixS (3 + K) (B t.2.1))] dX3_readPiece_36 mwX3_readLeaf lkX3_136 (by decide) rfl rc_X3 rfl (Nat.le_of_ble_eq_true rfl) (by omega) rfl rfl (c_leafT (B := B) (n := n) (K := K) (a := a) (t := t) (by omega) hm hBr hK3 cs (by have := cs.lt (by omega); omega) (by omega) (fun hl24 fl24 cl24 => ?_))
        show Aj γ mX3_readPiece d 0 0 Post 39 [(0, vA 84), (1, vI ((o : Nat) : Int)), (2, vI ((k : Nat) : Int))] [vI 1] (mk hl24 τ)
        exact a_zret dX3_readPiece_39 rfl (by first | exact Or.inl rfl | exact Or.inr rfl | omega) (kT _ _ _ fl24 (gr_leaf o k t (by omega) (by omega)) (by rw [lq23]; exact cl24))
      · have lq23 : lfc B ((K : Nat) : Int) t = -1 := lf_aF hK3 (by omega) (cs.lt (by omega)).1 q23
        show Aj γ mX3_readPiece d 0 0 Post 36 [(0, vA 84), (1, vI ((o : Nat) : Int)), (2, vI ((k : Nat) : Int))] [vI (-1000000005), vA 84] (mk h τ)
        refine b_callV (d' := d - 1) (mc' := 0) (ms' := 0) (mc1 := 0) (ms1 := 0) (st := []) (b := 84) [vI (-1000000005)] dX3_readPiece_36 mwX3_readLeaf lkX3_136 (by decide) rfl rc_X3 rfl (Nat.le_of_ble_eq_true rfl) (by omega) rfl rfl (c_leafF ?_)
        show Aj γ mX3_readPiece d 0 0 Post 39 [(0, vA 84), (1, vI ((o : Nat) : Int)), (2, vI ((k : Nat) : Int))] [vI 0] (mk h τ)
        exact a_zret dX3_readPiece_39 rfl (by first | exact Or.inl rfl | exact Or.inr rfl | omega) (kF _ t [] Fr_r (gr_leafF o k t (by omega) lq23) (cs.F (by have := cs.V.1; have := cs.V.2.1; omega)))
