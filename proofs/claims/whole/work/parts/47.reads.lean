theorem l_cp1 {γ : GT} {d : Nat} {a p b q m : Int} {f₀ g₀ : Nat → Int} {h : Nat → Nat → Int} {τ : List AC} {Post : Option AV → List AC → Prop} (ha : 0 ≤ a ∧ a ≤ 3) (hp : 0 ≤ p) (hb : 0 ≤ b ∧ b ≤ 3) (hq : 0 ≤ q) (hm : 0 ≤ m ∧ p + m ≤ 24 ∧ q + m ≤ 24) (ef : h 147 = f₀) (kE : Aj γ mX9_copy d 0 0 Post 139 [(6, vI ((Int.toNat m : Nat) : Int)), (0, vA 123), (1, vI a), (2, vI p), (3, vI b), (4, vI q), (5, vI m)] [] (mk (upR h 152 (cpy f₀ g₀ (Int.toNat ((24 * a) + p)) 0 (Int.toNat m))) τ)) :
    ∀ (f i : Nat), i ≤ (Int.toNat m) → (Int.toNat m) < i + f → Aj γ mX9_copy d 0 0 Post 105 [(6, vI ((i : Nat) : Int)), (0, vA 123), (1, vI a), (2, vI p), (3, vI b), (4, vI q), (5, vI m)] [] (mk (upR h 152 (cpy f₀ g₀ (Int.toNat ((24 * a) + p)) 0 i)) τ) := by
  intro f
  induction f with
  | zero => intro i h1 h2; omega
  | succ f ih =>
    intro i h1 h2
    refine a_iload (j := 0) dX9_copy_105 rfl ?_
    refine a_iload (j := 6) dX9_copy_107 rfl ?_
    refine a_icmp_ge (tgt := 139) dX9_copy_109 (by decide) (fun c109_1 => ?_) (fun c109_1 => ?_)
    · obtain rfl : i = Int.toNat m := (by omega)
      exact kE
    · refine a_aload_n (j := 1) dX9_copy_112 rfl rfl (Nat.le_of_ble_eq_true rfl) ?_
      refine b_getp (a := 123) (p := 152) dX9_copy_113 fwX9_97 (by decide) rfl (by decide) rfl rfl ?_
      refine a_iload (j := 0) dX9_copy_116 rfl ?_
      refine a_aload_n (j := 1) dX9_copy_118 rfl rfl (Nat.le_of_ble_eq_true rfl) ?_
      refine b_getp (a := 123) (p := 147) dX9_copy_119 fwX9_82 (by decide) rfl (by decide) rfl rfl ?_
      refine a_bipush dX9_copy_122 ⟨by decide, by decide, by decide⟩ ?_
      refine a_iload_n (j := 2) dX9_copy_124 rfl rfl ?_
      refine a_imul (z := (24 * a)) dX9_copy_125 (w_ok (by omega) (by omega)) ?_
      refine a_iload_n (j := 3) dX9_copy_126 rfl rfl ?_
      refine a_iadd (z := ((24 * a) + p)) dX9_copy_127 (w_ok (by omega) (by omega)) ?_
      refine a_iload (j := 0) dX9_copy_128 rfl ?_
      refine a_iadd (z := (((24 * a) + p) + ((i : Nat) : Int))) dX9_copy_130 (w_ok (by omega) (by omega)) ?_
      refine b_iaload (a := 147) (z := f₀ (Int.toNat (((24 * a) + p) + ((i : Nat) : Int)))) (Int.toNat (((24 * a) + p) + ((i : Nat) : Int))) dX9_copy_131 (by decide) rfl (by omega) (by omega) (sp_nil rfl _) ((upR_ne (by decide)).trans (congrFun ef _)) (fun r131_2 => ?_)
      refine b_iastore (a := 152) i dX9_copy_132 (by decide) rfl (by omega) (by omega) (sp_nil rfl _) ?_
      refine a_iinc (j := 0) (z' := ((i + 1 : Nat) : Int)) (lv' := [(6, vI ((i + 1 : Nat) : Int)), (0, vA 123), (1, vI a), (2, vI p), (3, vI b), (4, vI q), (5, vI m)]) dX9_copy_133 rfl (w_okN (by omega) (by omega) (by omega)) (by decide) rfl ?_
      refine a_goto (tgt := 105) dX9_copy_136 (by decide) ?_
      rw [up2_R, cpyG_s (by omega) (by omega)]
      refine a_lv (lv' := [(6, vI (((i + 1) : Nat) : Int)), (0, vA 123), (1, vI a), (2, vI p), (3, vI b), (4, vI q), (5, vI m)]) (by intro q hq; simp only [List.mem_cons, List.not_mem_nil, or_false] at hq ⊢; rcases hq with rfl | rfl | rfl | rfl | rfl | rfl | rfl <;> simp) (ih (i + 1) (by omega) (by omega))
theorem l_cp2 {γ : GT} {d : Nat} {a p b q m : Int} {f₀ g₀ : Nat → Int} {h : Nat → Nat → Int} {τ : List AC} {Post : Option AV → List AC → Prop} (ha : 0 ≤ a ∧ a ≤ 3) (hp : 0 ≤ p) (hb : 0 ≤ b ∧ b ≤ 3) (hq : 0 ≤ q) (hm : 0 ≤ m ∧ p + m ≤ 24 ∧ q + m ≤ 24) (eg : h 152 = g₀) (kQ : Post (some (vI m)) (mk (upR h 147 (cpy g₀ f₀ 0 (Int.toNat ((24 * b) + q)) (Int.toNat m))) τ)) :
    ∀ (f i : Nat), i ≤ (Int.toNat m) → (Int.toNat m) < i + f → Aj γ mX9_copy d 0 0 Post 142 [(6, vI ((i : Nat) : Int)), (0, vA 123), (1, vI a), (2, vI p), (3, vI b), (4, vI q), (5, vI m)] [] (mk (upR h 147 (cpy g₀ f₀ 0 (Int.toNat ((24 * b) + q)) i)) τ) := by
  intro f
  induction f with
  | zero => intro i h1 h2; omega
  | succ f ih =>
    intro i h1 h2
    refine a_iload (j := 0) dX9_copy_142 rfl ?_
    refine a_iload (j := 6) dX9_copy_144 rfl ?_
    refine a_icmp_ge (tgt := 177) dX9_copy_146 (by decide) (fun c146_1 => ?_) (fun c146_1 => ?_)
    · refine a_iload (j := 6) dX9_copy_177 rfl ?_
      exact a_iret dX9_copy_179 rfl (by obtain rfl : i = Int.toNat m := (by omega); exact kQ)
    · refine a_aload_n (j := 1) dX9_copy_149 rfl rfl (Nat.le_of_ble_eq_true rfl) ?_
      refine b_getp (a := 123) (p := 147) dX9_copy_150 fwX9_82 (by decide) rfl (by decide) rfl rfl ?_
      refine a_bipush dX9_copy_153 ⟨by decide, by decide, by decide⟩ ?_
      refine a_iload_n (j := 4) dX9_copy_155 rfl rfl ?_
      refine a_imul (z := (24 * b)) dX9_copy_156 (w_ok (by omega) (by omega)) ?_
      refine a_iload (j := 5) dX9_copy_157 rfl ?_
      refine a_iadd (z := ((24 * b) + q)) dX9_copy_159 (w_ok (by omega) (by omega)) ?_
      refine a_iload (j := 0) dX9_copy_160 rfl ?_
      refine a_iadd (z := (((24 * b) + q) + ((i : Nat) : Int))) dX9_copy_162 (w_ok (by omega) (by omega)) ?_
      refine a_aload_n (j := 1) dX9_copy_163 rfl rfl (Nat.le_of_ble_eq_true rfl) ?_
      refine b_getp (a := 123) (p := 152) dX9_copy_164 fwX9_97 (by decide) rfl (by decide) rfl rfl ?_
      refine a_iload (j := 0) dX9_copy_167 rfl ?_
      refine b_iaload (a := 152) (z := g₀ i) i dX9_copy_169 (by decide) rfl (by omega) (by omega) (sp_nil rfl _) ((upR_ne (by decide)).trans (congrFun eg _)) (fun r169_2 => ?_)
      refine b_iastore (a := 147) (Int.toNat (((24 * b) + q) + ((i : Nat) : Int))) dX9_copy_170 (by decide) rfl (by omega) (by omega) (sp_nil rfl _) ?_
      refine a_iinc (j := 0) (z' := ((i + 1 : Nat) : Int)) (lv' := [(6, vI ((i + 1 : Nat) : Int)), (0, vA 123), (1, vI a), (2, vI p), (3, vI b), (4, vI q), (5, vI m)]) dX9_copy_171 rfl (w_okN (by omega) (by omega) (by omega)) (by decide) rfl ?_
      refine a_goto (tgt := 142) dX9_copy_174 (by decide) ?_
      rw [up2_R, cpyG_s (by omega) (by omega)]
      refine a_lv (lv' := [(6, vI (((i + 1) : Nat) : Int)), (0, vA 123), (1, vI a), (2, vI p), (3, vI b), (4, vI q), (5, vI m)]) (by intro q hq; simp only [List.mem_cons, List.not_mem_nil, or_false] at hq ⊢; rcases hq with rfl | rfl | rfl | rfl | rfl | rfl | rfl <;> simp) (ih (i + 1) (by omega) (by omega))
set_option maxHeartbeats 8000000 in
theorem c_X9_copy {γ : GT} {d : Nat} {a p b q m : Int} {h : Nat → Nat → Int} {τ : List AC} {Post : Option AV → List AC → Prop} (hd : 2 ≤ d) {v1 : Int} (e1 : h 146 (Int.toNat a) = v1) {v2 : Int} (e2 : h 146 (Int.toNat b) = v2) {v3 : Int} (e3 : h 145 (Int.toNat a) = v3) {v4 : Int} (e4 : h 145 (Int.toNat b) = v4) {f5 : Nat → Int} (r5 : h 147 = f5) {f6 : Nat → Int} (r6 : h 152 = f6) (hZ : Im a 4 (0 ≤ v1 ∧ v1 ≤ 24)) (hY : Im b 4 (0 ≤ v2 ∧ v2 ≤ 24)) (k1 : (0 ≤ a ∧ a ≤ 3) → (0 ≤ b ∧ b ≤ 3) → (v3 < 0) → Post (some (vI (-1000000011))) (mk h τ)) (k2 : (0 ≤ a ∧ a ≤ 3) → (0 ≤ b ∧ b ≤ 3) → (¬ v3 < 0) → (0 ≤ v4) → (v3 = v4) → (p < 0) → Post (some (vI (-1000000013))) (mk h τ)) (k3 : (0 ≤ a ∧ a ≤ 3) → (0 ≤ b ∧ b ≤ 3) → (¬ v3 < 0) → (0 ≤ v4) → (v3 = v4) → (¬ p < 0) → (q < 0) → Post (some (vI (-1000000013))) (mk h τ)) (k4 : (0 ≤ a ∧ a ≤ 3) → (0 ≤ b ∧ b ≤ 3) → (¬ v3 < 0) → (0 ≤ v4) → (v3 = v4) → (¬ p < 0) → (¬ q < 0) → (m < 0) → Post (some (vI (-1000000013))) (mk h τ)) (k5 : (0 ≤ a ∧ a ≤ 3) → (0 ≤ b ∧ b ≤ 3) → (¬ v3 < 0) → (0 ≤ v4) → (v3 = v4) → (¬ p < 0) → (¬ q < 0) → (¬ m < 0) → ((v1 - m) < p) → Post (some (vI (-1000000013))) (mk h τ)) (k6 : (0 ≤ a ∧ a ≤ 3) → (0 ≤ b ∧ b ≤ 3) → (¬ v3 < 0) → (0 ≤ v4) → (v3 = v4) → (¬ p < 0) → (¬ q < 0) → (¬ m < 0) → (¬ (v1 - m) < p) → (q ≤ (v2 - m)) → Post (some (vI m)) (mk (upR (upR h 152 (cpy f5 f6 (Int.toNat ((24 * a) + p)) 0 (Int.toNat m))) 147 (cpy (cpy f5 f6 (Int.toNat ((24 * a) + p)) 0 (Int.toNat m)) f5 0 (Int.toNat ((24 * b) + q)) (Int.toNat m))) τ)) (k7 : (0 ≤ a ∧ a ≤ 3) → (0 ≤ b ∧ b ≤ 3) → (¬ v3 < 0) → (0 ≤ v4) → (v3 = v4) → (¬ p < 0) → (¬ q < 0) → (¬ m < 0) → (¬ (v1 - m) < p) → (¬ q ≤ (v2 - m)) → Post (some (vI (-1000000013))) (mk h τ)) (k8 : (0 ≤ a ∧ a ≤ 3) → (0 ≤ b ∧ b ≤ 3) → (¬ v3 < 0) → (0 ≤ v4) → (¬ v3 = v4) → Post (some (vI (-1000000012))) (mk h τ)) (k9 : (0 ≤ a ∧ a ≤ 3) → (0 ≤ b ∧ b ≤ 3) → (¬ v3 < 0) → (¬ 0 ≤ v4) → Post (some (vI (-1000000011))) (mk h τ)) (k10 : (0 ≤ a ∧ a ≤ 3) → (¬ (0 ≤ b ∧ b ≤ 3)) → Post (some (vI (-1000000001))) (mk h τ)) (k11 : (¬ (0 ≤ a ∧ a ≤ 3)) → Post (some (vI (-1000000001))) (mk h τ)) : Cj γ mX9_copy d 0 0 [vA 123, vI a, vI p, vI b, vI q, vI m] (mk h τ) Post := by
  refine c_of (by decide) (Nat.le_of_ble_eq_true rfl) ?_
  show Aj γ mX9_copy d 0 0 Post 0 [(0, vA 123), (1, vI a), (2, vI p), (3, vI b), (4, vI q), (5, vI m)] [] (mk h τ)
  refine a_ok fun _ _ hlv => ?_
  have hmi : inI m := hlv (5, vI m) (by simp)
  unfold inI at hmi
  refine a_iload_n (j := 1) dX9_copy_0 rfl rfl ?_
  refine a_callS (d' := d - 1) (mc' := 0) (ms' := 0) (mc1 := 0) (ms1 := 0) (st := []) [vI a] dX9_copy_1 mwX9_isSheet lkX9_312 rfl (Nat.le_of_ble_eq_true rfl) (by omega) rfl rfl (c_X9_isSheet  (by omega)    (fun t1_1 => ?_) (fun t1_1 => ?_))
  · have t1_1 : 0 ≤ a ∧ a ≤ 3 := t1_1
    show Aj γ mX9_copy d 0 0 Post 4 [(0, vA 123), (1, vI a), (2, vI p), (3, vI b), (4, vI q), (5, vI m)] [vI 1] (mk h τ)
    refine a_if_eq (tgt := 14) dX9_copy_4 (by decide) (fun c => absurd c (by decide)) (fun _ => ?_)
    refine a_iload_n (j := 3) dX9_copy_7 rfl rfl ?_
    refine a_callS (d' := d - 1) (mc' := 0) (ms' := 0) (mc1 := 0) (ms1 := 0) (st := []) [vI b] dX9_copy_8 mwX9_isSheet lkX9_312 rfl (Nat.le_of_ble_eq_true rfl) (by omega) rfl rfl (c_X9_isSheet  (by omega)    (fun t8_2 => ?_) (fun t8_2 => ?_))
    · have t8_2 : 0 ≤ b ∧ b ≤ 3 := t8_2
      show Aj γ mX9_copy d 0 0 Post 11 [(0, vA 123), (1, vI a), (2, vI p), (3, vI b), (4, vI q), (5, vI m)] [vI 1] (mk h τ)
      refine a_if_ne (tgt := 17) dX9_copy_11 (by decide) (fun _ => ?_) (fun c => absurd c (by decide))
      have hZ := hZ (by omega) (by omega)
      have hY := hY (by omega) (by omega)
      refine a_aload_n (j := 0) dX9_copy_17 rfl rfl (Nat.le_of_ble_eq_true rfl) ?_
      refine b_getp (a := 123) (p := 145) dX9_copy_18 fwX9_76 (by decide) rfl (by decide) rfl rfl ?_
      refine a_iload_n (j := 1) dX9_copy_21 rfl rfl ?_
      refine b_iaload (a := 145) (z := v3) (Int.toNat a) dX9_copy_22 (by decide) rfl (by omega) (by omega) (sp_nil rfl _) e3 (fun r22_3 => ?_)
      refine a_if_lt (tgt := 35) dX9_copy_23 (by decide) (fun c23_4 => ?_) (fun c23_4 => ?_)
      · refine a_ldcw (z := (-1000000011)) dX9_copy_35 kwX9_316 ⟨by decide, by decide, by decide⟩ ?_
        exact a_iret dX9_copy_38 rfl (k1 t1_1 t8_2 c23_4)
      · refine a_aload_n (j := 0) dX9_copy_26 rfl rfl (Nat.le_of_ble_eq_true rfl) ?_
        refine b_getp (a := 123) (p := 145) dX9_copy_27 fwX9_76 (by decide) rfl (by decide) rfl rfl ?_
        refine a_iload_n (j := 3) dX9_copy_30 rfl rfl ?_
        refine b_iaload (a := 145) (z := v4) (Int.toNat b) dX9_copy_31 (by decide) rfl (by omega) (by omega) (sp_nil rfl _) e4 (fun r31_5 => ?_)
        refine a_if_ge (tgt := 39) dX9_copy_32 (by decide) (fun c32_6 => ?_) (fun c32_6 => ?_)
        · refine a_aload_n (j := 0) dX9_copy_39 rfl rfl (Nat.le_of_ble_eq_true rfl) ?_
          refine b_getp (a := 123) (p := 145) dX9_copy_40 fwX9_76 (by decide) rfl (by decide) rfl rfl ?_
          refine a_iload_n (j := 1) dX9_copy_43 rfl rfl ?_
          refine b_iaload (a := 145) (z := v3) (Int.toNat a) dX9_copy_44 (by decide) rfl (by omega) (by omega) (sp_nil rfl _) e3 (fun r44_7 => ?_)
          refine a_aload_n (j := 0) dX9_copy_45 rfl rfl (Nat.le_of_ble_eq_true rfl) ?_
          refine b_getp (a := 123) (p := 145) dX9_copy_46 fwX9_76 (by decide) rfl (by decide) rfl rfl ?_
          refine a_iload_n (j := 3) dX9_copy_49 rfl rfl ?_
          refine b_iaload (a := 145) (z := v4) (Int.toNat b) dX9_copy_50 (by decide) rfl (by omega) (by omega) (sp_nil rfl _) e4 (fun r50_8 => ?_)
          refine a_icmp_eq (tgt := 57) dX9_copy_51 (by decide) (fun c51_9 => ?_) (fun c51_9 => ?_)
          · refine a_iload_n (j := 2) dX9_copy_57 rfl rfl ?_
            refine a_if_lt (tgt := 98) dX9_copy_58 (by decide) (fun c58_10 => ?_) (fun c58_10 => ?_)
            · refine a_ldcw (z := (-1000000013)) dX9_copy_98 kwX9_317 ⟨by decide, by decide, by decide⟩ ?_
              exact a_iret dX9_copy_101 rfl (k2 t1_1 t8_2 c23_4 c32_6 c51_9 c58_10)
            · refine a_iload (j := 4) dX9_copy_61 rfl ?_
              refine a_if_lt (tgt := 98) dX9_copy_63 (by decide) (fun c63_11 => ?_) (fun c63_11 => ?_)
              · refine a_ldcw (z := (-1000000013)) dX9_copy_98 kwX9_317 ⟨by decide, by decide, by decide⟩ ?_
                exact a_iret dX9_copy_101 rfl (k3 t1_1 t8_2 c23_4 c32_6 c51_9 c58_10 c63_11)
              · refine a_iload (j := 5) dX9_copy_66 rfl ?_
                refine a_if_lt (tgt := 98) dX9_copy_68 (by decide) (fun c68_12 => ?_) (fun c68_12 => ?_)
                · refine a_ldcw (z := (-1000000013)) dX9_copy_98 kwX9_317 ⟨by decide, by decide, by decide⟩ ?_
                  exact a_iret dX9_copy_101 rfl (k4 t1_1 t8_2 c23_4 c32_6 c51_9 c58_10 c63_11 c68_12)
                · refine a_iload_n (j := 2) dX9_copy_71 rfl rfl ?_
                  refine a_aload_n (j := 0) dX9_copy_72 rfl rfl (Nat.le_of_ble_eq_true rfl) ?_
                  refine b_getp (a := 123) (p := 146) dX9_copy_73 fwX9_79 (by decide) rfl (by decide) rfl rfl ?_
                  refine a_iload_n (j := 1) dX9_copy_76 rfl rfl ?_
                  refine b_iaload (a := 146) (z := v1) (Int.toNat a) dX9_copy_77 (by decide) rfl (by omega) (by omega) (sp_nil rfl _) e1 (fun r77_13 => ?_)
                  refine a_iload (j := 5) dX9_copy_78 rfl ?_
                  refine a_isub (z := (v1 - m)) dX9_copy_80 (w_ok (by (first | omega | (exfalso; omega))) (by (first | omega | (exfalso; omega)))) ?_
                  refine a_icmp_gt (tgt := 98) dX9_copy_81 (by decide) (fun c81_14 => ?_) (fun c81_14 => ?_)
                  · refine a_ldcw (z := (-1000000013)) dX9_copy_98 kwX9_317 ⟨by decide, by decide, by decide⟩ ?_
                    exact a_iret dX9_copy_101 rfl (k5 t1_1 t8_2 c23_4 c32_6 c51_9 c58_10 c63_11 c68_12 c81_14)
                  · refine a_iload (j := 4) dX9_copy_84 rfl ?_
                    refine a_aload_n (j := 0) dX9_copy_86 rfl rfl (Nat.le_of_ble_eq_true rfl) ?_
                    refine b_getp (a := 123) (p := 146) dX9_copy_87 fwX9_79 (by decide) rfl (by decide) rfl rfl ?_
                    refine a_iload_n (j := 3) dX9_copy_90 rfl rfl ?_
                    refine b_iaload (a := 146) (z := v2) (Int.toNat b) dX9_copy_91 (by decide) rfl (by omega) (by omega) (sp_nil rfl _) e2 (fun r91_15 => ?_)
                    refine a_iload (j := 5) dX9_copy_92 rfl ?_
                    refine a_isub (z := (v2 - m)) dX9_copy_94 (w_ok (by omega) (by omega)) ?_
                    refine a_icmp_le (tgt := 102) dX9_copy_95 (by decide) (fun c95_16 => ?_) (fun c95_16 => ?_)
                    · refine a_iconst dX9_copy_102 ⟨by decide, by decide⟩ ?_
                      refine a_istore (lv' := [(6, vI 0), (0, vA 123), (1, vI a), (2, vI p), (3, vI b), (4, vI q), (5, vI m)]) dX9_copy_103 (by decide) rfl ?_
                      have hl := l_cp1 (γ := γ) (d := d) (τ := τ) (Post := Post) (h := h) (a := a) (p := p) (b := b) (q := q) (m := m) (f₀ := f5) (g₀ := f6) (by omega) (by omega) (by omega) (by omega) (by omega) r5 ?_ (Int.toNat m + 1) 0 (by omega) (by omega)
                      · rw [cpyG_0, upR_id r6] at hl
                        exact hl
                      · refine a_iconst dX9_copy_139 ⟨by decide, by decide⟩ ?_
                        refine a_istore (lv' := [(6, vI 0), (0, vA 123), (1, vI a), (2, vI p), (3, vI b), (4, vI q), (5, vI m)]) dX9_copy_140 (by decide) rfl ?_
                        have hk := l_cp2 (γ := γ) (d := d) (τ := τ) (Post := Post) (h := (upR h 152 (cpy f5 f6 (Int.toNat ((24 * a) + p)) 0 (Int.toNat m)))) (a := a) (p := p) (b := b) (q := q) (m := m) (f₀ := f5) (g₀ := (cpy f5 f6 (Int.toNat ((24 * a) + p)) 0 (Int.toNat m))) (by omega) (by omega) (by omega) (by omega) (by omega) upR_r (k6 t1_1 t8_2 c23_4 c32_6 c51_9 c58_10 c63_11 c68_12 c81_14 c95_16) (Int.toNat m + 1) 0 (by omega) (by omega)
                        rw [cpyG_0, upR_id ((upR_rn (by omega)).trans r5)] at hk
                        exact hk
                    · refine a_ldcw (z := (-1000000013)) dX9_copy_98 kwX9_317 ⟨by decide, by decide, by decide⟩ ?_
                      exact a_iret dX9_copy_101 rfl (k7 t1_1 t8_2 c23_4 c32_6 c51_9 c58_10 c63_11 c68_12 c81_14 c95_16)
          · refine a_ldc (z := (-1000000012)) dX9_copy_54 kwX9_171 ⟨by decide, by decide, by decide⟩ ?_
            exact a_iret dX9_copy_56 rfl (k8 t1_1 t8_2 c23_4 c32_6 c51_9)
        · refine a_ldcw (z := (-1000000011)) dX9_copy_35 kwX9_316 ⟨by decide, by decide, by decide⟩ ?_
          exact a_iret dX9_copy_38 rfl (k9 t1_1 t8_2 c23_4 c32_6)
    · have t8_2 : ¬ (0 ≤ b ∧ b ≤ 3) := t8_2
      show Aj γ mX9_copy d 0 0 Post 11 [(0, vA 123), (1, vI a), (2, vI p), (3, vI b), (4, vI q), (5, vI m)] [vI 0] (mk h τ)
      refine a_if_ne (tgt := 17) dX9_copy_11 (by decide) (fun c => absurd c (by decide)) (fun _ => ?_)
      refine a_ldc (z := (-1000000001)) dX9_copy_14 kwX9_146 ⟨by decide, by decide, by decide⟩ ?_
      exact a_iret dX9_copy_16 rfl (k10 t1_1 t8_2)
  · have t1_1 : ¬ (0 ≤ a ∧ a ≤ 3) := t1_1
    show Aj γ mX9_copy d 0 0 Post 4 [(0, vA 123), (1, vI a), (2, vI p), (3, vI b), (4, vI q), (5, vI m)] [vI 0] (mk h τ)
    refine a_if_eq (tgt := 14) dX9_copy_4 (by decide) (fun _ => ?_) (fun c => absurd c (by decide))
    refine a_ldc (z := (-1000000001)) dX9_copy_14 kwX9_146 ⟨by decide, by decide, by decide⟩ ?_
    exact a_iret dX9_copy_16 rfl (k11 t1_1)
def rdP (T : Nat → Nat → Int) (t : Nat) (cl : Nat → Int) : Nat → Prop := fun k => ¬ cl k = -1000000005 ∧ (3 < k ∨ ¬ cl k = T 9 (4 * t + k) + T 4 t)
noncomputable def vReads (N : Nat → Int) (so sz : Int) (cl : Nat → Int) (s t : Int) : Int := if (0 ≤ s ∧ s ≤ 3) ∧ (0 ≤ t ∧ t < N 5) then (if so < 0 then -1000000011 else fndV (rdP (tt N) (Int.toNat t) cl) 0 (Int.toNat sz)) else -1000000001
set_option maxHeartbeats 8000000 in
theorem l_readsX {γ : GT} {d : Nat} {T : Nat → Nat → Int} {sn tn z : Nat} {cl : Nat → Int} {h : Nat → Nat → Int} {τ : List AC} {Post : Option AV → List AC → Prop} (hd : 3 ≤ d) (hT : tOK T) (hTT : TT h T) (hs : sn < 4) (ht : (tn : Int) < T 0 2) (hz : h (90 + 2 * sn) 1 = ((z : Nat) : Int)) (hcl : ∀ k, k < 24 → h (90 + 2 * sn + 1) k = cl k) (hz4 : z ≤ 24) (kQ : Post (some (vI (fndV (rdP T tn cl) 0 z))) (mk h τ)) :
    ∀ (f i : Nat) , i ≤ z → z < i + f → (fndV (rdP T tn cl) 0 z = fndV (rdP T tn cl) i z) → Aj γ mX8_reads d 0 0 Post 54 [(4, vI ((i : Nat) : Int)), (3, vA (90 + 2 * sn)), (0, vA 0), (1, vI ((sn : Nat) : Int)), (2, vI ((tn : Nat) : Int))] [] (mk h τ) := by
  intro f
  induction f with
  | zero => intro i  h1_ h2_; omega
  | succ f ih =>
    intro i  h1_ h2_ iv
    have h2_ := hT.2.2.1
    have qa := hT.2.2.2.2.2 tn
    have qa3 := qa.2.1
    have qa4 := qa.2.2.1
    have qa5 := qa.2.2.2.1
    have qa6 := qa.2.2.2.2.1
    have qa7 := qa.2.2.2.2.2.1
    have qa8 := (qa.2.2.2.2.2.2.2 (by omega))
    have qaw := hT.2.2.2.2.1 (Int.toNat (T 3 tn))
    refine a_iload (j := 0) dX8_reads_54 rfl ?_
    refine a_aload_n (j := 1) dX8_reads_56 rfl rfl (Nat.le_of_ble_eq_true rfl) ?_
    refine b_get (a := (90 + 2 * sn)) (z := ((z : Nat) : Int)) (t := 0) dX8_reads_57 fwX8_286 (by have := (sh_i (show sn < 4 by omega)).1.1; omega) (sh_i (show sn < 4 by omega)).1.2.1 (by decide) (sh_s (sh_i (show sn < 4 by omega)).1 (by decide)) rfl hz ?_
    refine a_icmp_ge (tgt := 109) dX8_reads_60 (by decide) (fun c60_1 => ?_) (fun c60_1 => ?_)
    · refine a_ldc (z := (-1000000005)) dX8_reads_109 kwX8_159 ⟨by decide, by decide, by decide⟩ ?_
      exact a_iret dX8_reads_111 rfl (post_v kQ (iv.trans (fnd_0 (by omega))))
    · refine a_aload_n (j := 1) dX8_reads_63 rfl rfl (Nat.le_of_ble_eq_true rfl) ?_
      refine b_getp (a := (90 + 2 * sn)) (p := ((90 + 2 * sn) + 1)) dX8_reads_64 fwX8_281 (by have := (sh_i (show sn < 4 by omega)).1.1; omega) (sh_i (show sn < 4 by omega)).1.2.1 (by decide) (sh_p (sh_i (show sn < 4 by omega)).1) rfl ?_
      refine a_iload (j := 0) dX8_reads_67 rfl ?_
      refine b_iaload (a := ((90 + 2 * sn) + 1)) (z := cl i) i dX8_reads_69 (sh_i (show sn < 4 by omega)).1.1 (sh_i (show sn < 4 by omega)).1.2.2.1 rfl (by omega) (sh_c (sh_i (show sn < 4 by omega)).1) (hcl i (by omega)) (fun r69_2 => ?_)
      refine a_istore (lv' := [(5, vI (cl i)), (4, vI ((i : Nat) : Int)), (3, vA (90 + 2 * sn)), (0, vA 0), (1, vI ((sn : Nat) : Int)), (2, vI ((tn : Nat) : Int))]) dX8_reads_70 (by decide) rfl ?_
      refine a_iload (j := 0) dX8_reads_72 rfl ?_
      refine a_ldc (z := (-1000000005)) dX8_reads_74 kwX8_159 ⟨by decide, by decide, by decide⟩ ?_
      refine a_icmp_eq (tgt := 103) dX8_reads_76 (by decide) (fun c76_3 => ?_) (fun c76_3 => ?_)
      · refine a_iinc (j := 1) (z' := ((i + 1 : Nat) : Int)) (lv' := [(4, vI ((i + 1 : Nat) : Int)), (5, vI (cl i)), (3, vA (90 + 2 * sn)), (0, vA 0), (1, vI ((sn : Nat) : Int)), (2, vI ((tn : Nat) : Int))]) dX8_reads_103 rfl (w_okN (by omega) (by omega) (by omega)) (by decide) rfl ?_
        refine a_goto (tgt := 54) dX8_reads_106 (by decide) ?_
        refine a_lv (lv' := [(4, vI (((i + 1) : Nat) : Int)), (3, vA (90 + 2 * sn)), (0, vA 0), (1, vI ((sn : Nat) : Int)), (2, vI ((tn : Nat) : Int))]) (by intro q hq; simp only [List.mem_cons, List.not_mem_nil, or_false] at hq ⊢; rcases hq with rfl | rfl | rfl | rfl | rfl <;> simp) (ih (i + 1)  (by omega) (by omega) (iv.trans (fnd_s (fun e => by have e1 := e.1; have e2 := e.2; omega))))
      · refine a_iload (j := 1) dX8_reads_79 rfl ?_
        refine a_iconst dX8_reads_81 ⟨by decide, by decide⟩ ?_
        refine a_icmp_ge (tgt := 100) dX8_reads_82 (by decide) (fun c82_4 => ?_) (fun c82_4 => ?_)
        · refine a_iload (j := 1) dX8_reads_100 rfl ?_
          exact a_iret dX8_reads_102 rfl (post_v kQ (iv.trans (fnd_h (by omega) ⟨by omega, by omega⟩)))
        · have qa9i := qa.2.2.2.2.2.2.1 i (by omega)
          refine a_iload (j := 0) dX8_reads_85 rfl ?_
          refine a_aload_n (j := 3) dX8_reads_87 rfl rfl (Nat.le_of_ble_eq_true rfl) ?_
          refine b_getp (a := 0) (p := 63) dX8_reads_88 fwX8_24 (by decide) rfl (by decide) rfl rfl ?_
          refine a_iload_n (j := 5) dX8_reads_91 rfl rfl ?_
          refine a_iload (j := 1) dX8_reads_92 rfl ?_
          refine b_callV (d' := d - 1) (mc' := 0) (ms' := 0) (mc1 := 0) (ms1 := 0) (st := [vI (cl i)]) (b := 63) [vI ((tn : Nat) : Int), vI ((i : Nat) : Int)] dX8_reads_94 mwX5_there lkX8_124 (by decide) rfl rc_X5 rfl (Nat.le_of_ble_eq_true rfl) (by omega) rfl rfl (c_X5_there (v1 := (T 9 (4 * tn + i))) (v2 := (T 4 tn)) (by omega)  ((congrArg (h 72) (show (Int.toNat ((((tn : Nat) : Int) * 4) + ((i : Nat) : Int))) = (4 * tn + i) by omega)).trans ((hTT.2.2.1 tn (by omega)).2.2.2.2.2.2 i (by omega)).2) ((congrArg (h 67) (show (Int.toNat ((tn : Nat) : Int)) = tn by omega)).trans (hTT.2.2.1 tn (by omega)).2.2.1) (show 0 ≤ ((tn : Nat) : Int) ∧ ((tn : Nat) : Int) ≤ 11 by omega) (show 0 ≤ ((i : Nat) : Int) ∧ ((i : Nat) : Int) ≤ 3 by omega) (show 0 ≤ (T 9 (4 * tn + i)) ∧ (T 9 (4 * tn + i)) ≤ 3000 by omega) (show 1 ≤ (T 4 tn) ∧ (T 4 tn) ≤ 600 by omega) ?_)
          show Aj γ mX8_reads d 0 0 Post 97 [(5, vI (cl i)), (4, vI ((i : Nat) : Int)), (3, vA (90 + 2 * sn)), (0, vA 0), (1, vI ((sn : Nat) : Int)), (2, vI ((tn : Nat) : Int))] [vI ((T 9 (4 * tn + i)) + (T 4 tn)), vI (cl i)] (mk h τ)
          refine a_icmp_eq (tgt := 103) dX8_reads_97 (by decide) (fun c97_5 => ?_) (fun c97_5 => ?_)
          · refine a_iinc (j := 1) (z' := ((i + 1 : Nat) : Int)) (lv' := [(4, vI ((i + 1 : Nat) : Int)), (5, vI (cl i)), (3, vA (90 + 2 * sn)), (0, vA 0), (1, vI ((sn : Nat) : Int)), (2, vI ((tn : Nat) : Int))]) dX8_reads_103 rfl (w_okN (by omega) (by omega) (by omega)) (by decide) rfl ?_
            refine a_goto (tgt := 54) dX8_reads_106 (by decide) ?_
            refine a_lv (lv' := [(4, vI (((i + 1) : Nat) : Int)), (3, vA (90 + 2 * sn)), (0, vA 0), (1, vI ((sn : Nat) : Int)), (2, vI ((tn : Nat) : Int))]) (by intro q hq; simp only [List.mem_cons, List.not_mem_nil, or_false] at hq ⊢; rcases hq with rfl | rfl | rfl | rfl | rfl <;> simp) (ih (i + 1)  (by omega) (by omega) (iv.trans (fnd_s (fun e => by have e1 := e.1; have e2 := e.2; omega))))
          · refine a_iload (j := 1) dX8_reads_100 rfl ?_
            exact a_iret dX8_reads_102 rfl (post_v kQ (iv.trans (fnd_h (by omega) ⟨by omega, by omega⟩)))
set_option maxHeartbeats 8000000 in
theorem q_X8_reads {γ : GT} {d : Nat} {s t : Int} {N J : Nat → Int} {so sz : Nat → Int} {cl : Nat → Nat → Int} {h : Nat → Nat → Int} {τ : List AC} {Post : Option AV → List AC → Prop} (hd : 12 ≤ d) (hR : WR h τ 1 N) (hX : NX N) (hC : CC h N J) (hs0 : ∀ s : Nat, s < 4 → h (90 + 2 * s) 0 = so s ∧ h (90 + 2 * s) 1 = sz s ∧ ∀ k, k < 24 → h (90 + 2 * s + 1) k = cl s k) (hsz : ∀ s : Nat, s < 4 → (-1 ≤ so s ∧ so s ≤ 1) ∧ 0 ≤ sz s ∧ sz s ≤ 24) (kQ : ∀ h', Fr [63, 64, 65, 66, 67, 68, 69, 70, 71, 72, 73, 74, 75, 76, 77, 78, 79, 80, 81, 82, 83] h h' → CC h' N J → Post (some (vI (vReads N (so (Int.toNat s)) (sz (Int.toNat s)) (cl (Int.toNat s)) s t))) (mk h' τ)) : Cj γ mX8_reads d 0 0 [vA 0, vI s, vI t] (mk h τ) Post := by
  have hsc := hX.1.1
  have hs1 := hsc.1
  have hs2 := hsc.2.1
  have hs3 := hsc.2.2.1
  have hs4 := hsc.2.2.2.1
  have hs5 := hsc.2.2.2.2
  have hx7 := hX.2.1
  have hx8 := hX.2.2.2.1
  obtain ⟨T, hTe⟩ : ∃ T, tt N = T := ⟨_, rfl⟩
  have hT : tOK T := hTe ▸ tt_OK hX.1
  have hNT : NTr N T := hTe ▸ NT_tt hX.1
  have e02 : N 5 = T 0 2 := hNT.1.2.2.1
  have e03 : N 4 = T 0 3 := hNT.1.2.2.2
  by_cases hin : (0 ≤ s ∧ s ≤ 3) ∧ (0 ≤ t ∧ t < N 5)
  · obtain ⟨sn, rfl⟩ : ∃ sn : Nat, s = (sn : Int) := ⟨Int.toNat s, by omega⟩
    obtain ⟨tn, rfl⟩ : ∃ tn : Nat, t = (tn : Int) := ⟨Int.toNat t, by omega⟩
    have hzz := hsz sn (by omega)
    obtain ⟨z, hz⟩ : ∃ z : Nat, sz sn = (z : Int) := ⟨Int.toNat (sz sn), by omega⟩
    refine c_of (by decide) (Nat.le_of_ble_eq_true rfl) ?_
    show Aj γ mX8_reads d 0 0 Post 0 [(0, vA 0), (1, vI ((sn : Nat) : Int)), (2, vI ((tn : Nat) : Int))] [] (mk h τ)
    refine a_iload_n (j := 1) dX8_reads_0 rfl rfl ?_
    refine a_callS (d' := d - 1) (mc' := 0) (ms' := 0) (mc1 := 0) (ms1 := 0) (st := []) [vI ((sn : Nat) : Int)] dX8_reads_1 mwX8_isSheet lkX8_266 rfl (Nat.le_of_ble_eq_true rfl) (by omega) rfl rfl (c_X8_isSheet  (by omega)    (fun t1_1 => ?_) (fun t1_1 => ?_))
    · have t1_1 : 0 ≤ ((sn : Nat) : Int) ∧ ((sn : Nat) : Int) ≤ 3 := t1_1
      show Aj γ mX8_reads d 0 0 Post 4 [(0, vA 0), (1, vI ((sn : Nat) : Int)), (2, vI ((tn : Nat) : Int))] [vI 1] (mk h τ)
      refine a_if_eq (tgt := 18) dX8_reads_4 (by decide) (fun c => absurd c (by decide)) (fun _ => ?_)
      refine a_aload_n (j := 0) dX8_reads_7 rfl rfl (Nat.le_of_ble_eq_true rfl) ?_
      refine b_getp (a := 0) (p := 1) dX8_reads_8 fwX8_14 (by decide) rfl (by decide) rfl rfl ?_
      refine a_iload_n (j := 2) dX8_reads_11 rfl rfl ?_
      refine b_callV (d' := d - 1) (mc' := 0) (ms' := 0) (mc1 := 0) (ms1 := 0) (st := []) (b := 1) [vI ((tn : Nat) : Int)] dX8_reads_12 mwX7_isTrain lkX8_121 (by decide) rfl rc_X7 rfl (Nat.le_of_ble_eq_true rfl) (by omega) rfl rfl (c_X7_isTrain (v1 := (N 5)) (by omega) (Or.inl rfl) hR.1.2.1 (show 0 ≤ (N 5) ∧ (N 5) ≤ 12 by omega) (fun t12_2 => ?_) (fun t12_2 => ?_))
      · have t12_2 : 0 ≤ ((tn : Nat) : Int) ∧ ((tn : Nat) : Int) < (N 5) := t12_2
        show Aj γ mX8_reads d 0 0 Post 15 [(0, vA 0), (1, vI ((sn : Nat) : Int)), (2, vI ((tn : Nat) : Int))] [vI 1] (mk h τ)
        refine a_if_ne (tgt := 21) dX8_reads_15 (by decide) (fun _ => ?_) (fun c => absurd c (by decide))
        refine a_aload_n (j := 0) dX8_reads_21 rfl rfl (Nat.le_of_ble_eq_true rfl) ?_
        refine b_getp (a := 0) (p := 87) dX8_reads_22 fwX8_52 (by decide) rfl (by decide) rfl rfl ?_
        refine a_iload_n (j := 1) dX8_reads_25 rfl rfl ?_
        refine b_aaloadp (a := 87) (p := (90 + 2 * sn)) sn dX8_reads_26 (by decide) rfl qa_15 rfl (by omega) (sh_i (show sn < 4 by omega)).2 ?_
        refine a_astore_n (lv' := [(3, vA (90 + 2 * sn)), (0, vA 0), (1, vI ((sn : Nat) : Int)), (2, vI ((tn : Nat) : Int))]) dX8_reads_27 rfl (by decide) (Nat.le_of_ble_eq_true rfl) rfl ?_
        refine a_aload_n (j := 0) dX8_reads_28 rfl rfl (Nat.le_of_ble_eq_true rfl) ?_
        refine b_get (a := (90 + 2 * sn)) (z := so sn) (t := 0) dX8_reads_29 fwX8_273 (by have := (sh_i (show sn < 4 by omega)).1.1; omega) (sh_i (show sn < 4 by omega)).1.2.1 (by decide) (sh_s (sh_i (show sn < 4 by omega)).1 (by decide)) rfl (hs0 sn (by omega)).1 ?_
        refine a_iconst dX8_reads_32 ⟨by decide, by decide⟩ ?_
        refine a_icmp_ne (tgt := 40) dX8_reads_33 (by decide) (fun c33_3 => ?_) (fun c33_3 => ?_)
        · refine a_aload_n (j := 1) dX8_reads_40 rfl rfl (Nat.le_of_ble_eq_true rfl) ?_
          refine b_getp (a := 0) (p := 63) dX8_reads_41 fwX8_24 (by decide) rfl (by decide) rfl rfl ?_
          refine a_aload_n (j := 1) dX8_reads_44 rfl rfl (Nat.le_of_ble_eq_true rfl) ?_
          refine b_getp (a := 0) (p := 1) dX8_reads_45 fwX8_14 (by decide) rfl (by decide) rfl rfl ?_
          refine b_callV (d' := d - 1) (mc' := 0) (ms' := 0) (mc1 := 0) (ms1 := 0) (st := []) (b := 63) [vA 1] dX8_reads_48 mwX5_refresh lkX8_88 (by decide) rfl rc_X5 rfl (Nat.le_of_ble_eq_true rfl) (by omega) rfl rfl (k_refresh (N := N) (J := J) (by omega) hR hX.1 hC (fun h7 hF7 c7 t7 => ?_))
          rw [hTe] at t7
          show Aj γ mX8_reads d 0 0 Post 51 [(3, vA (90 + 2 * sn)), (0, vA 0), (1, vI ((sn : Nat) : Int)), (2, vI ((tn : Nat) : Int))] [] (mk h7 τ)
          refine a_iconst dX8_reads_51 ⟨by decide, by decide⟩ ?_
          refine a_istore (lv' := [(4, vI 0), (3, vA (90 + 2 * sn)), (0, vA 0), (1, vI ((sn : Nat) : Int)), (2, vI ((tn : Nat) : Int))]) dX8_reads_52 (by decide) rfl ?_
          exact a_lv (lv' := [(4, vI ((0 : Nat) : Int)), (3, vA (90 + 2 * sn)), (0, vA 0), (1, vI ((sn : Nat) : Int)), (2, vI ((tn : Nat) : Int))]) (by intro q hq; simp only [List.mem_cons, List.not_mem_nil, or_false] at hq ⊢; rcases hq with rfl | rfl | rfl | rfl | rfl <;> simp) (l_readsX (h := h7) (T := T) (sn := sn) (tn := tn) (z := z) (cl := cl sn) (by omega) hT t7 (by omega) (by omega) ((Fr_v hF7 (by simp only [List.mem_cons, List.not_mem_nil, or_false]; omega)).trans ((hs0 sn (by omega)).2.1.trans hz)) (fun k hk => (Fr_v hF7 (by simp only [List.mem_cons, List.not_mem_nil, or_false]; omega)).trans ((hs0 sn (by omega)).2.2 k hk)) (by omega) (post_v (kQ h7 hF7 c7) (by unfold vReads; simp only [Int.toNat_natCast]; rw [if_pos (by omega), if_neg (by omega), hTe, show Int.toNat (sz sn) = z by omega])) (z + 1) 0 (by omega) (by omega) rfl)
        · refine a_ldcw (z := (-1000000011)) dX8_reads_36 kwX8_276 ⟨by decide, by decide, by decide⟩ ?_
          exact a_iret dX8_reads_39 rfl (post_v (kQ h Fr_r hC) (by unfold vReads; rw [if_pos (by omega), Int.toNat_natCast, if_pos (by omega)]))
      · have t12_2 : ¬ (0 ≤ ((tn : Nat) : Int) ∧ ((tn : Nat) : Int) < (N 5)) := t12_2
        show Aj γ mX8_reads d 0 0 Post 15 [(0, vA 0), (1, vI ((sn : Nat) : Int)), (2, vI ((tn : Nat) : Int))] [vI 0] (mk h τ)
        refine a_if_ne (tgt := 21) dX8_reads_15 (by decide) (fun c => absurd c (by decide)) (fun _ => ?_)
        refine a_ldc (z := (-1000000001)) dX8_reads_18 kwX8_72 ⟨by decide, by decide, by decide⟩ ?_
        exact a_iret dX8_reads_20 rfl (absurd hin (by omega))
    · have t1_1 : ¬ (0 ≤ ((sn : Nat) : Int) ∧ ((sn : Nat) : Int) ≤ 3) := t1_1
      show Aj γ mX8_reads d 0 0 Post 4 [(0, vA 0), (1, vI ((sn : Nat) : Int)), (2, vI ((tn : Nat) : Int))] [vI 0] (mk h τ)
      refine a_if_eq (tgt := 18) dX8_reads_4 (by decide) (fun _ => ?_) (fun c => absurd c (by decide))
      refine a_ldc (z := (-1000000001)) dX8_reads_18 kwX8_72 ⟨by decide, by decide, by decide⟩ ?_
      exact a_iret dX8_reads_20 rfl (absurd hin (by omega))
  · refine c_of (by decide) (Nat.le_of_ble_eq_true rfl) ?_
    show Aj γ mX8_reads d 0 0 Post 0 [(0, vA 0), (1, vI s), (2, vI t)] [] (mk h τ)
    refine a_iload_n (j := 1) dX8_reads_0 rfl rfl ?_
    refine a_callS (d' := d - 1) (mc' := 0) (ms' := 0) (mc1 := 0) (ms1 := 0) (st := []) [vI s] dX8_reads_1 mwX8_isSheet lkX8_266 rfl (Nat.le_of_ble_eq_true rfl) (by omega) rfl rfl (c_X8_isSheet  (by omega)    (fun t1_1 => ?_) (fun t1_1 => ?_))
    · have t1_1 : 0 ≤ s ∧ s ≤ 3 := t1_1
      show Aj γ mX8_reads d 0 0 Post 4 [(0, vA 0), (1, vI s), (2, vI t)] [vI 1] (mk h τ)
      refine a_if_eq (tgt := 18) dX8_reads_4 (by decide) (fun c => absurd c (by decide)) (fun _ => ?_)
      refine a_aload_n (j := 0) dX8_reads_7 rfl rfl (Nat.le_of_ble_eq_true rfl) ?_
      refine b_getp (a := 0) (p := 1) dX8_reads_8 fwX8_14 (by decide) rfl (by decide) rfl rfl ?_
      refine a_iload_n (j := 2) dX8_reads_11 rfl rfl ?_
      refine b_callV (d' := d - 1) (mc' := 0) (ms' := 0) (mc1 := 0) (ms1 := 0) (st := []) (b := 1) [vI t] dX8_reads_12 mwX7_isTrain lkX8_121 (by decide) rfl rc_X7 rfl (Nat.le_of_ble_eq_true rfl) (by omega) rfl rfl (c_X7_isTrain (v1 := (N 5)) (by omega) (Or.inl rfl) hR.1.2.1 (show 0 ≤ (N 5) ∧ (N 5) ≤ 12 by omega) (fun t12_2 => ?_) (fun t12_2 => ?_))
      · have t12_2 : 0 ≤ t ∧ t < (N 5) := t12_2
        show Aj γ mX8_reads d 0 0 Post 15 [(0, vA 0), (1, vI s), (2, vI t)] [vI 1] (mk h τ)
        refine a_if_ne (tgt := 21) dX8_reads_15 (by decide) (fun _ => ?_) (fun c => absurd c (by decide))
        exact absurd (by omega) hin
      · have t12_2 : ¬ (0 ≤ t ∧ t < (N 5)) := t12_2
        show Aj γ mX8_reads d 0 0 Post 15 [(0, vA 0), (1, vI s), (2, vI t)] [vI 0] (mk h τ)
        refine a_if_ne (tgt := 21) dX8_reads_15 (by decide) (fun c => absurd c (by decide)) (fun _ => ?_)
        refine a_ldc (z := (-1000000001)) dX8_reads_18 kwX8_72 ⟨by decide, by decide, by decide⟩ ?_
        exact a_iret dX8_reads_20 rfl (post_v (kQ h Fr_r hC) (by unfold vReads; rw [if_neg hin]))
    · have t1_1 : ¬ (0 ≤ s ∧ s ≤ 3) := t1_1
      show Aj γ mX8_reads d 0 0 Post 4 [(0, vA 0), (1, vI s), (2, vI t)] [vI 0] (mk h τ)
      refine a_if_eq (tgt := 18) dX8_reads_4 (by decide) (fun _ => ?_) (fun c => absurd c (by decide))
      refine a_ldc (z := (-1000000001)) dX8_reads_18 kwX8_72 ⟨by decide, by decide, by decide⟩ ?_
      exact a_iret dX8_reads_20 rfl (post_v (kQ h Fr_r hC) (by unfold vReads; rw [if_neg hin]))
set_option maxHeartbeats 8000000 in
theorem l_readsR {γ : GT} {d : Nat} {T : Nat → Nat → Int} {sn tn z : Nat} {cl : Nat → Int} {h : Nat → Nat → Int} {τ : List AC} {Post : Option AV → List AC → Prop} (hd : 3 ≤ d) (hT : tOK T) (hRT : RT h T) (hs : sn < 4) (ht : (tn : Int) < T 0 2) (hz : h 146 sn = ((z : Nat) : Int)) (hcl : ∀ k, k < 24 → h 147 (24 * sn + k) = cl k) (hz4 : z ≤ 24) (kQ : Post (some (vI (fndV (rdP T tn cl) 0 z))) (mk h τ)) :
    ∀ (f i : Nat) , i ≤ z → z < i + f → (fndV (rdP T tn cl) 0 z = fndV (rdP T tn cl) i z) → Aj γ mX9_reads d 0 0 Post 37 [(3, vI ((i : Nat) : Int)), (0, vA 123), (1, vI ((sn : Nat) : Int)), (2, vI ((tn : Nat) : Int))] [] (mk h τ) := by
  intro f
  induction f with
  | zero => intro i  h1_ h2_; omega
  | succ f ih =>
    intro i  h1_ h2_ iv
    have h2_ := hT.2.2.1
    have qa := hT.2.2.2.2.2 tn
    have qa3 := qa.2.1
    have qa4 := qa.2.2.1
    have qa5 := qa.2.2.2.1
    have qa6 := qa.2.2.2.2.1
    have qa7 := qa.2.2.2.2.2.1
    have qa8 := (qa.2.2.2.2.2.2.2 (by omega))
    have qaw := hT.2.2.2.2.1 (Int.toNat (T 3 tn))
    refine a_iload_n (j := 0) dX9_reads_37 rfl rfl ?_
    refine a_aload_n (j := 1) dX9_reads_38 rfl rfl (Nat.le_of_ble_eq_true rfl) ?_
    refine b_getp (a := 123) (p := 146) dX9_reads_39 fwX9_79 (by decide) rfl (by decide) rfl rfl ?_
    refine a_iload_n (j := 2) dX9_reads_42 rfl rfl ?_
    refine b_iaload (a := 146) (z := ((z : Nat) : Int)) sn dX9_reads_43 (by decide) rfl rfl (by omega) (sp_nil rfl _) hz (fun r43_1 => ?_)
    refine a_icmp_ge (tgt := 91) dX9_reads_44 (by decide) (fun c44_2 => ?_) (fun c44_2 => ?_)
    · refine a_ldc (z := (-1000000005)) dX9_reads_91 kwX9_115 ⟨by decide, by decide, by decide⟩ ?_
      exact a_iret dX9_reads_93 rfl (post_v kQ (iv.trans (fnd_0 (by omega))))
    · refine a_aload_n (j := 1) dX9_reads_47 rfl rfl (Nat.le_of_ble_eq_true rfl) ?_
      refine b_getp (a := 123) (p := 147) dX9_reads_48 fwX9_82 (by decide) rfl (by decide) rfl rfl ?_
      refine a_bipush dX9_reads_51 ⟨by decide, by decide, by decide⟩ ?_
      refine a_iload_n (j := 2) dX9_reads_53 rfl rfl ?_
      refine a_imul (z := (24 * ((sn : Nat) : Int))) dX9_reads_54 (w_ok (by omega) (by omega)) ?_
      refine a_iload_n (j := 0) dX9_reads_55 rfl rfl ?_
      refine a_iadd (z := ((24 * ((sn : Nat) : Int)) + ((i : Nat) : Int))) dX9_reads_56 (w_ok (by omega) (by omega)) ?_
      refine b_iaload (a := 147) (z := cl i) (24 * sn + i) dX9_reads_57 (by decide) rfl (by omega) (by omega) (sp_nil rfl _) (hcl i (by omega)) (fun r57_3 => ?_)
      refine a_istore (lv' := [(4, vI (cl i)), (3, vI ((i : Nat) : Int)), (0, vA 123), (1, vI ((sn : Nat) : Int)), (2, vI ((tn : Nat) : Int))]) dX9_reads_58 (by decide) rfl ?_
      refine a_iload (j := 0) dX9_reads_60 rfl ?_
      refine a_ldc (z := (-1000000005)) dX9_reads_62 kwX9_115 ⟨by decide, by decide, by decide⟩ ?_
      refine a_icmp_eq (tgt := 85) dX9_reads_64 (by decide) (fun c64_4 => ?_) (fun c64_4 => ?_)
      · refine a_iinc (j := 1) (z' := ((i + 1 : Nat) : Int)) (lv' := [(3, vI ((i + 1 : Nat) : Int)), (4, vI (cl i)), (0, vA 123), (1, vI ((sn : Nat) : Int)), (2, vI ((tn : Nat) : Int))]) dX9_reads_85 rfl (w_okN (by omega) (by omega) (by omega)) (by decide) rfl ?_
        refine a_goto (tgt := 37) dX9_reads_88 (by decide) ?_
        refine a_lv (lv' := [(3, vI (((i + 1) : Nat) : Int)), (0, vA 123), (1, vI ((sn : Nat) : Int)), (2, vI ((tn : Nat) : Int))]) (by intro q hq; simp only [List.mem_cons, List.not_mem_nil, or_false] at hq ⊢; rcases hq with rfl | rfl | rfl | rfl <;> simp) (ih (i + 1)  (by omega) (by omega) (iv.trans (fnd_s (fun e => by have e1 := e.1; have e2 := e.2; omega))))
      · refine a_iload_n (j := 1) dX9_reads_67 rfl rfl ?_
        refine a_iconst dX9_reads_68 ⟨by decide, by decide⟩ ?_
        refine a_icmp_gt (tgt := 83) dX9_reads_69 (by decide) (fun c69_5 => ?_) (fun c69_5 => ?_)
        · refine a_iload_n (j := 1) dX9_reads_83 rfl rfl ?_
          exact a_iret dX9_reads_84 rfl (post_v kQ (iv.trans (fnd_h (by omega) ⟨by omega, by omega⟩)))
        · have qa9i := qa.2.2.2.2.2.2.1 i (by omega)
          refine a_iload (j := 0) dX9_reads_72 rfl ?_
          refine a_aload_n (j := 2) dX9_reads_74 rfl rfl (Nat.le_of_ble_eq_true rfl) ?_
          refine a_iload_n (j := 4) dX9_reads_75 rfl rfl ?_
          refine a_iload_n (j := 1) dX9_reads_76 rfl rfl ?_
          refine b_callV (d' := d - 1) (mc' := 0) (ms' := 0) (mc1 := 0) (ms1 := 0) (st := [vI (cl i)]) (b := 123) [vI ((tn : Nat) : Int), vI ((i : Nat) : Int)] dX9_reads_77 mwX9_there lkX9_158 (by decide) rfl rc_X9 rfl (Nat.le_of_ble_eq_true rfl) (by omega) rfl rfl (c_X9_there (v1 := (T 6 tn)) (v2 := (T 9 (4 * tn + i) - T 6 tn)) (v3 := (T 4 tn)) (by omega)  ((congrArg (h 128) (show (Int.toNat ((tn : Nat) : Int)) = tn by omega)).trans (hRT.2.2 tn (by omega)).1) ((congrArg (h 130) (show (Int.toNat ((4 * ((tn : Nat) : Int)) + ((i : Nat) : Int))) = (4 * tn + i) by omega)).trans ((hRT.2.2 tn (by omega)).2.2 i (by omega))) ((congrArg (h 124) (show (Int.toNat ((15 + (11 * ((tn : Nat) : Int))) + 4)) = (19 + 11 * tn) by omega)).trans (hRT.1.2 tn (by omega)).2.2.1) (show 0 ≤ ((tn : Nat) : Int) ∧ ((tn : Nat) : Int) ≤ 11 by omega) (show 0 ≤ ((i : Nat) : Int) ∧ ((i : Nat) : Int) ≤ 3 by omega) (show 0 ≤ (T 6 tn) ∧ (T 6 tn) ≤ 1559 by omega) (show 0 ≤ (T 9 (4 * tn + i) - T 6 tn) ∧ (T 9 (4 * tn + i) - T 6 tn) ≤ 1000 by omega) (show 1 ≤ (T 4 tn) ∧ (T 4 tn) ≤ 600 by omega) ?_)
          show Aj γ mX9_reads d 0 0 Post 80 [(4, vI (cl i)), (3, vI ((i : Nat) : Int)), (0, vA 123), (1, vI ((sn : Nat) : Int)), (2, vI ((tn : Nat) : Int))] [vI ((T 6 tn) + (T 9 (4 * tn + i) - T 6 tn) + (T 4 tn)), vI (cl i)] (mk h τ)
          refine a_icmp_eq (tgt := 85) dX9_reads_80 (by decide) (fun c80_6 => ?_) (fun c80_6 => ?_)
          · refine a_iinc (j := 1) (z' := ((i + 1 : Nat) : Int)) (lv' := [(3, vI ((i + 1 : Nat) : Int)), (4, vI (cl i)), (0, vA 123), (1, vI ((sn : Nat) : Int)), (2, vI ((tn : Nat) : Int))]) dX9_reads_85 rfl (w_okN (by omega) (by omega) (by omega)) (by decide) rfl ?_
            refine a_goto (tgt := 37) dX9_reads_88 (by decide) ?_
            refine a_lv (lv' := [(3, vI (((i + 1) : Nat) : Int)), (0, vA 123), (1, vI ((sn : Nat) : Int)), (2, vI ((tn : Nat) : Int))]) (by intro q hq; simp only [List.mem_cons, List.not_mem_nil, or_false] at hq ⊢; rcases hq with rfl | rfl | rfl | rfl <;> simp) (ih (i + 1)  (by omega) (by omega) (iv.trans (fnd_s (fun e => by have e1 := e.1; have e2 := e.2; omega))))
          · refine a_iload_n (j := 1) dX9_reads_83 rfl rfl ?_
            exact a_iret dX9_reads_84 rfl (post_v kQ (iv.trans (fnd_h (by omega) ⟨by omega, by omega⟩)))
set_option maxHeartbeats 8000000 in
theorem q_X9_reads {γ : GT} {d : Nat} {s t : Int} {N : Nat → Int} {so sz : Nat → Int} {cl : Nat → Nat → Int} {h : Nat → Nat → Int} {τ : List AC} {Post : Option AV → List AC → Prop} (hd : 12 ≤ d) (hN : h 124 = N) (hX : NX N) (hC : RC h N) (hs0 : ∀ s : Nat, s < 4 → h 145 s = so s ∧ h 146 s = sz s ∧ ∀ k, k < 24 → h 147 (24 * s + k) = cl s k) (hsz : ∀ s : Nat, s < 4 → (-1 ≤ so s ∧ so s ≤ 1) ∧ 0 ≤ sz s ∧ sz s ≤ 24) (kQ : ∀ h', Fr [123, 127, 128, 129, 130, 131, 132, 133, 134, 135, 136, 143, 144] h h' → K3 h h' → RC h' N → Post (some (vI (vReads N (so (Int.toNat s)) (sz (Int.toNat s)) (cl (Int.toNat s)) s t))) (mk h' τ)) : Cj γ mX9_reads d 0 0 [vA 123, vI s, vI t] (mk h τ) Post := by
  have hsc := hX.1.1
  have hs1 := hsc.1
  have hs2 := hsc.2.1
  have hs3 := hsc.2.2.1
  have hs4 := hsc.2.2.2.1
  have hs5 := hsc.2.2.2.2
  have hx7 := hX.2.1
  have hx8 := hX.2.2.2.1
  obtain ⟨T, hTe⟩ : ∃ T, tt N = T := ⟨_, rfl⟩
  have hT : tOK T := hTe ▸ tt_OK hX.1
  have hNT : NTr N T := hTe ▸ NT_tt hX.1
  have e02 : N 5 = T 0 2 := hNT.1.2.2.1
  have e03 : N 4 = T 0 3 := hNT.1.2.2.2
  by_cases hin : (0 ≤ s ∧ s ≤ 3) ∧ (0 ≤ t ∧ t < N 5)
  · obtain ⟨sn, rfl⟩ : ∃ sn : Nat, s = (sn : Int) := ⟨Int.toNat s, by omega⟩
    obtain ⟨tn, rfl⟩ : ∃ tn : Nat, t = (tn : Int) := ⟨Int.toNat t, by omega⟩
    have hzz := hsz sn (by omega)
    obtain ⟨z, hz⟩ : ∃ z : Nat, sz sn = (z : Int) := ⟨Int.toNat (sz sn), by omega⟩
    refine c_of (by decide) (Nat.le_of_ble_eq_true rfl) ?_
    show Aj γ mX9_reads d 0 0 Post 0 [(0, vA 123), (1, vI ((sn : Nat) : Int)), (2, vI ((tn : Nat) : Int))] [] (mk h τ)
    refine a_iload_n (j := 1) dX9_reads_0 rfl rfl ?_
    refine a_callS (d' := d - 1) (mc' := 0) (ms' := 0) (mc1 := 0) (ms1 := 0) (st := []) [vI ((sn : Nat) : Int)] dX9_reads_1 mwX9_isSheet lkX9_312 rfl (Nat.le_of_ble_eq_true rfl) (by omega) rfl rfl (c_X9_isSheet  (by omega)    (fun t1_1 => ?_) (fun t1_1 => ?_))
    · have t1_1 : 0 ≤ ((sn : Nat) : Int) ∧ ((sn : Nat) : Int) ≤ 3 := t1_1
      show Aj γ mX9_reads d 0 0 Post 4 [(0, vA 123), (1, vI ((sn : Nat) : Int)), (2, vI ((tn : Nat) : Int))] [vI 1] (mk h τ)
      refine a_if_eq (tgt := 15) dX9_reads_4 (by decide) (fun c => absurd c (by decide)) (fun _ => ?_)
      refine a_aload_n (j := 0) dX9_reads_7 rfl rfl (Nat.le_of_ble_eq_true rfl) ?_
      refine a_iload_n (j := 2) dX9_reads_8 rfl rfl ?_
      refine b_callV (d' := d - 1) (mc' := 0) (ms' := 0) (mc1 := 0) (ms1 := 0) (st := []) (b := 123) [vI ((tn : Nat) : Int)] dX9_reads_9 mwX9_isTrain lkX9_152 (by decide) rfl rc_X9 rfl (Nat.le_of_ble_eq_true rfl) (by omega) rfl rfl (c_X9_isTrain (v1 := (N 5)) (by omega)  (congrFun hN _) (show 0 ≤ (N 5) ∧ (N 5) ≤ 12 by omega) (fun t9_2 => ?_) (fun t9_2 => ?_))
      · have t9_2 : 0 ≤ ((tn : Nat) : Int) ∧ ((tn : Nat) : Int) < (N 5) := t9_2
        show Aj γ mX9_reads d 0 0 Post 12 [(0, vA 123), (1, vI ((sn : Nat) : Int)), (2, vI ((tn : Nat) : Int))] [vI 1] (mk h τ)
        refine a_if_ne (tgt := 18) dX9_reads_12 (by decide) (fun _ => ?_) (fun c => absurd c (by decide))
        refine a_aload_n (j := 0) dX9_reads_18 rfl rfl (Nat.le_of_ble_eq_true rfl) ?_
        refine b_getp (a := 123) (p := 145) dX9_reads_19 fwX9_76 (by decide) rfl (by decide) rfl rfl ?_
        refine a_iload_n (j := 1) dX9_reads_22 rfl rfl ?_
        refine b_iaload (a := 145) (z := so sn) sn dX9_reads_23 (by decide) rfl rfl (by omega) (sp_nil rfl _) (hs0 sn (by omega)).1 (fun r23_3 => ?_)
        refine a_if_ge (tgt := 31) dX9_reads_24 (by decide) (fun c24_4 => ?_) (fun c24_4 => ?_)
        · refine a_aload_n (j := 0) dX9_reads_31 rfl rfl (Nat.le_of_ble_eq_true rfl) ?_
          refine b_callV (d' := d - 1) (mc' := 0) (ms' := 0) (mc1 := 0) (ms1 := 0) (st := []) (b := 123) [] dX9_reads_32 mwX9_learns lkX9_155 (by decide) rfl rc_X9 rfl (Nat.le_of_ble_eq_true rfl) (by omega) rfl rfl (k_learns (N := N) (by omega) hN hX.1 hC (fun h7 hF7 k7 c7 t7 g7 => ?_))
          rw [hTe] at t7 g7
          show Aj γ mX9_reads d 0 0 Post 35 [(0, vA 123), (1, vI ((sn : Nat) : Int)), (2, vI ((tn : Nat) : Int))] [] (mk h7 τ)
          refine a_iconst dX9_reads_35 ⟨by decide, by decide⟩ ?_
          refine a_istore_n (lv' := [(3, vI 0), (0, vA 123), (1, vI ((sn : Nat) : Int)), (2, vI ((tn : Nat) : Int))]) dX9_reads_36 rfl (by decide) rfl ?_
          exact a_lv (lv' := [(3, vI ((0 : Nat) : Int)), (0, vA 123), (1, vI ((sn : Nat) : Int)), (2, vI ((tn : Nat) : Int))]) (by intro q hq; simp only [List.mem_cons, List.not_mem_nil, or_false] at hq ⊢; rcases hq with rfl | rfl | rfl | rfl <;> simp) (l_readsR (h := h7) (T := T) (sn := sn) (tn := tn) (z := z) (cl := cl sn) (by omega) hT t7 (by omega) (by omega) ((Fr_v hF7 (by decide)).trans ((hs0 sn (by omega)).2.1.trans hz)) (fun k hk => (Fr_v hF7 (by decide)).trans ((hs0 sn (by omega)).2.2 k hk)) (by omega) (post_v (kQ h7 hF7 k7 c7) (by unfold vReads; simp only [Int.toNat_natCast]; rw [if_pos (by omega), if_neg (by omega), hTe, show Int.toNat (sz sn) = z by omega])) (z + 1) 0 (by omega) (by omega) rfl)
        · refine a_ldcw (z := (-1000000011)) dX9_reads_27 kwX9_316 ⟨by decide, by decide, by decide⟩ ?_
          exact a_iret dX9_reads_30 rfl (post_v (kQ h Fr_r K3_r hC) (by unfold vReads; rw [if_pos (by omega), Int.toNat_natCast, if_pos (by omega)]))
      · have t9_2 : ¬ (0 ≤ ((tn : Nat) : Int) ∧ ((tn : Nat) : Int) < (N 5)) := t9_2
        show Aj γ mX9_reads d 0 0 Post 12 [(0, vA 123), (1, vI ((sn : Nat) : Int)), (2, vI ((tn : Nat) : Int))] [vI 0] (mk h τ)
        refine a_if_ne (tgt := 18) dX9_reads_12 (by decide) (fun c => absurd c (by decide)) (fun _ => ?_)
        refine a_ldc (z := (-1000000001)) dX9_reads_15 kwX9_146 ⟨by decide, by decide, by decide⟩ ?_
        exact a_iret dX9_reads_17 rfl (absurd hin (by omega))
    · have t1_1 : ¬ (0 ≤ ((sn : Nat) : Int) ∧ ((sn : Nat) : Int) ≤ 3) := t1_1
      show Aj γ mX9_reads d 0 0 Post 4 [(0, vA 123), (1, vI ((sn : Nat) : Int)), (2, vI ((tn : Nat) : Int))] [vI 0] (mk h τ)
      refine a_if_eq (tgt := 15) dX9_reads_4 (by decide) (fun _ => ?_) (fun c => absurd c (by decide))
      refine a_ldc (z := (-1000000001)) dX9_reads_15 kwX9_146 ⟨by decide, by decide, by decide⟩ ?_
      exact a_iret dX9_reads_17 rfl (absurd hin (by omega))
  · refine c_of (by decide) (Nat.le_of_ble_eq_true rfl) ?_
    show Aj γ mX9_reads d 0 0 Post 0 [(0, vA 123), (1, vI s), (2, vI t)] [] (mk h τ)
    refine a_iload_n (j := 1) dX9_reads_0 rfl rfl ?_
    refine a_callS (d' := d - 1) (mc' := 0) (ms' := 0) (mc1 := 0) (ms1 := 0) (st := []) [vI s] dX9_reads_1 mwX9_isSheet lkX9_312 rfl (Nat.le_of_ble_eq_true rfl) (by omega) rfl rfl (c_X9_isSheet  (by omega)    (fun t1_1 => ?_) (fun t1_1 => ?_))
    · have t1_1 : 0 ≤ s ∧ s ≤ 3 := t1_1
      show Aj γ mX9_reads d 0 0 Post 4 [(0, vA 123), (1, vI s), (2, vI t)] [vI 1] (mk h τ)
      refine a_if_eq (tgt := 15) dX9_reads_4 (by decide) (fun c => absurd c (by decide)) (fun _ => ?_)
      refine a_aload_n (j := 0) dX9_reads_7 rfl rfl (Nat.le_of_ble_eq_true rfl) ?_
      refine a_iload_n (j := 2) dX9_reads_8 rfl rfl ?_
      refine b_callV (d' := d - 1) (mc' := 0) (ms' := 0) (mc1 := 0) (ms1 := 0) (st := []) (b := 123) [vI t] dX9_reads_9 mwX9_isTrain lkX9_152 (by decide) rfl rc_X9 rfl (Nat.le_of_ble_eq_true rfl) (by omega) rfl rfl (c_X9_isTrain (v1 := (N 5)) (by omega)  (congrFun hN _) (show 0 ≤ (N 5) ∧ (N 5) ≤ 12 by omega) (fun t9_2 => ?_) (fun t9_2 => ?_))
      · have t9_2 : 0 ≤ t ∧ t < (N 5) := t9_2
        show Aj γ mX9_reads d 0 0 Post 12 [(0, vA 123), (1, vI s), (2, vI t)] [vI 1] (mk h τ)
        refine a_if_ne (tgt := 18) dX9_reads_12 (by decide) (fun _ => ?_) (fun c => absurd c (by decide))
        exact absurd (by omega) hin
      · have t9_2 : ¬ (0 ≤ t ∧ t < (N 5)) := t9_2
        show Aj γ mX9_reads d 0 0 Post 12 [(0, vA 123), (1, vI s), (2, vI t)] [vI 0] (mk h τ)
        refine a_if_ne (tgt := 18) dX9_reads_12 (by decide) (fun c => absurd c (by decide)) (fun _ => ?_)
        refine a_ldc (z := (-1000000001)) dX9_reads_15 kwX9_146 ⟨by decide, by decide, by decide⟩ ?_
        exact a_iret dX9_reads_17 rfl (post_v (kQ h Fr_r K3_r hC) (by unfold vReads; rw [if_neg hin]))
    · have t1_1 : ¬ (0 ≤ s ∧ s ≤ 3) := t1_1
      show Aj γ mX9_reads d 0 0 Post 4 [(0, vA 123), (1, vI s), (2, vI t)] [vI 0] (mk h τ)
      refine a_if_eq (tgt := 15) dX9_reads_4 (by decide) (fun _ => ?_) (fun c => absurd c (by decide))
      refine a_ldc (z := (-1000000001)) dX9_reads_15 kwX9_146 ⟨by decide, by decide, by decide⟩ ?_
      exact a_iret dX9_reads_17 rfl (post_v (kQ h Fr_r K3_r hC) (by unfold vReads; rw [if_neg hin]))
