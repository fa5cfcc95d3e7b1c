theorem c_X7_isStop {γ : GT} {d : Nat} {w : Nat} {s : Int} {h : Nat → Nat → Int} {τ : List AC} {Post : Option AV → List AC → Prop} (hd : 1 ≤ d) (hw : isWd w) {v1 : Int} (e1 : h w 1 = v1) (hr : 0 ≤ v1 ∧ v1 ≤ 6) (ht : 0 ≤ s ∧ s < v1 → Post (some (vI 1)) (mk h τ)) (hf : ¬ (0 ≤ s ∧ s < v1) → Post (some (vI 0)) (mk h τ)) : Cj γ mX7_isStop d 0 0 [vA w, vI s] (mk h τ) Post := by
  refine c_of (by decide) (Nat.le_of_ble_eq_true rfl) ?_
  show Aj γ mX7_isStop d 0 0 Post 0 [(0, vA w), (1, vI s)] [] (mk h τ)
  refine a_iload_n (j := 1) dX7_isStop_0 rfl rfl ?_
  refine a_iconst dX7_isStop_1 ⟨by decide, by decide⟩ ?_
  refine a_aload_n (j := 0) dX7_isStop_2 rfl rfl (Nat.le_of_ble_eq_true rfl) ?_
  refine b_get (a := w) (z := v1) (t := 0) dX7_isStop_3 fwX7_44 (by rcases hw with rfl | rfl <;> decide) (by rcases hw with rfl | rfl <;> rfl) (by decide) (by rcases hw with rfl | rfl <;> rfl) rfl e1 ?_
  refine a_iconst dX7_isStop_6 ⟨by decide, by decide⟩ ?_
  refine a_isub (z := (v1 - 1)) dX7_isStop_7 (w_ok (by omega) (by omega)) ?_
  refine a_callS (d' := d - 1) (mc' := 0) (ms' := 0) (mc1 := 0) (ms1 := 0) (st := []) [vI s, vI 0, vI (v1 - 1)] dX7_isStop_8 mwX8_within lkX7_47 rfl (Nat.le_of_ble_eq_true rfl) (by omega) rfl rfl (c_X8_within  (by omega)    (fun t8_1 => ?_) (fun t8_1 => ?_))
  · have t8_1 : 0 ≤ s ∧ s ≤ (v1 - 1) := t8_1
    show Aj γ mX7_isStop d 0 0 Post 11 [(0, vA w), (1, vI s)] [vI 1] (mk h τ)
    exact a_zret dX7_isStop_11 rfl (by first | exact Or.inl rfl | exact Or.inr rfl | omega) (ht (by omega))
  · have t8_1 : ¬ (0 ≤ s ∧ s ≤ (v1 - 1)) := t8_1
    show Aj γ mX7_isStop d 0 0 Post 11 [(0, vA w), (1, vI s)] [vI 0] (mk h τ)
    exact a_zret dX7_isStop_11 rfl (by first | exact Or.inl rfl | exact Or.inr rfl | omega) (hf (by omega))
theorem c_X7_isTrain {γ : GT} {d : Nat} {w : Nat} {s : Int} {h : Nat → Nat → Int} {τ : List AC} {Post : Option AV → List AC → Prop} (hd : 1 ≤ d) (hw : isWd w) {v1 : Int} (e1 : h w 3 = v1) (hr : 0 ≤ v1 ∧ v1 ≤ 12) (ht : 0 ≤ s ∧ s < v1 → Post (some (vI 1)) (mk h τ)) (hf : ¬ (0 ≤ s ∧ s < v1) → Post (some (vI 0)) (mk h τ)) : Cj γ mX7_isTrain d 0 0 [vA w, vI s] (mk h τ) Post := by
  refine c_of (by decide) (Nat.le_of_ble_eq_true rfl) ?_
  show Aj γ mX7_isTrain d 0 0 Post 0 [(0, vA w), (1, vI s)] [] (mk h τ)
  refine a_iload_n (j := 1) dX7_isTrain_0 rfl rfl ?_
  refine a_iconst dX7_isTrain_1 ⟨by decide, by decide⟩ ?_
  refine a_aload_n (j := 0) dX7_isTrain_2 rfl rfl (Nat.le_of_ble_eq_true rfl) ?_
  refine b_get (a := w) (z := v1) (t := 0) dX7_isTrain_3 fwX7_51 (by rcases hw with rfl | rfl <;> decide) (by rcases hw with rfl | rfl <;> rfl) (by decide) (by rcases hw with rfl | rfl <;> rfl) rfl e1 ?_
  refine a_iconst dX7_isTrain_6 ⟨by decide, by decide⟩ ?_
  refine a_isub (z := (v1 - 1)) dX7_isTrain_7 (w_ok (by omega) (by omega)) ?_
  refine a_callS (d' := d - 1) (mc' := 0) (ms' := 0) (mc1 := 0) (ms1 := 0) (st := []) [vI s, vI 0, vI (v1 - 1)] dX7_isTrain_8 mwX8_within lkX7_47 rfl (Nat.le_of_ble_eq_true rfl) (by omega) rfl rfl (c_X8_within  (by omega)    (fun t8_1 => ?_) (fun t8_1 => ?_))
  · have t8_1 : 0 ≤ s ∧ s ≤ (v1 - 1) := t8_1
    show Aj γ mX7_isTrain d 0 0 Post 11 [(0, vA w), (1, vI s)] [vI 1] (mk h τ)
    exact a_zret dX7_isTrain_11 rfl (by first | exact Or.inl rfl | exact Or.inr rfl | omega) (ht (by omega))
  · have t8_1 : ¬ (0 ≤ s ∧ s ≤ (v1 - 1)) := t8_1
    show Aj γ mX7_isTrain d 0 0 Post 11 [(0, vA w), (1, vI s)] [vI 0] (mk h τ)
    exact a_zret dX7_isTrain_11 rfl (by first | exact Or.inl rfl | exact Or.inr rfl | omega) (hf (by omega))
/-- what a train costs, by kind and price -/
def farF (k p : Int) : Int := if k = 1 ∨ k = 3 then p / 2 else if k = 2 then p + 10 else if k = 4 then 2 * (p + 10) else p
/-- what it waits without a text -/
def uwF (k : Int) : Int := if k = 2 then 5 else if k = 4 ∨ k = 5 then 10 else 0
/-- its delay by a step s, its host's by s being g -/
def delF (k s g : Int) : Int := if k = 1 then 7 * s else if k = 3 then 7 * s + g / 2 else if k = 2 ∨ k = 4 then 0 else 5 * s
theorem c_X6_fare {γ : GT} {d : Nat} {a : Nat} {h : Nat → Nat → Int} {τ : List AC} {Post : Option AV → List AC → Prop} (hd : 0 ≤ d) (ht : isTr a) {v1 : Int} (e1 : h a 5 = v1) {v2 : Int} (e2 : h a 0 = v2) (hr : 0 ≤ v1 ∧ v1 ≤ 999) (k : Post (some (vI (farF v2 v1))) (mk h τ)) : Cj γ mX6_fare d 0 0 [vA a] (mk h τ) Post := by
  refine c_of (by decide) (Nat.le_of_ble_eq_true rfl) ?_
  show Aj γ mX6_fare d 0 0 Post 0 [(0, vA a)] [] (mk h τ)
  refine a_aload_n (j := 0) dX6_fare_0 rfl rfl (Nat.le_of_ble_eq_true rfl) ?_
  refine b_get (a := a) (z := v2) (t := 0) dX6_fare_1 fwX6_20 (by have := ht.1; omega) ht.2.1 (by decide) (tr_s ht (by decide)) rfl e2 ?_
  rcases (show v2 = 1 ∨ v2 = 2 ∨ v2 = 3 ∨ v2 = 4 ∨ (¬ v2 = 1 ∧ ¬ v2 = 2 ∧ ¬ v2 = 3 ∧ ¬ v2 = 4) by omega) with c4_1 | c4_1 | c4_1 | c4_1 | c4_1
  · refine a_tblIn (tgt := 36) 0 dX6_fare_4 ⟨by omega, by omega⟩ rfl (by decide) ?_
    refine a_aload_n (j := 0) dX6_fare_36 rfl rfl (Nat.le_of_ble_eq_true rfl) ?_
    refine b_get (a := a) (z := v1) (t := 0) dX6_fare_37 fwX6_29 (by have := ht.1; omega) ht.2.1 (by decide) (tr_s ht (by decide)) rfl e1 ?_
    refine a_iconst dX6_fare_40 ⟨by decide, by decide⟩ ?_
    refine a_idiv (z := (v1 / 2)) dX6_fare_41 (by omega) (w_divN (by omega) (by omega) (by omega)) ?_
    exact a_iret dX6_fare_42 rfl (post_v k (by unfold farF; split <;> (try split) <;> (try split) <;> omega))
  · refine a_tblIn (tgt := 43) 1 dX6_fare_4 ⟨by omega, by omega⟩ rfl (by decide) ?_
    refine a_aload_n (j := 0) dX6_fare_43 rfl rfl (Nat.le_of_ble_eq_true rfl) ?_
    refine b_get (a := a) (z := v1) (t := 0) dX6_fare_44 fwX6_29 (by have := ht.1; omega) ht.2.1 (by decide) (tr_s ht (by decide)) rfl e1 ?_
    refine a_bipush dX6_fare_47 ⟨by decide, by decide, by decide⟩ ?_
    refine a_iadd (z := (v1 + 10)) dX6_fare_49 (w_ok (by omega) (by omega)) ?_
    exact a_iret dX6_fare_50 rfl (post_v k (by unfold farF; split <;> (try split) <;> (try split) <;> omega))
  · refine a_tblIn (tgt := 36) 2 dX6_fare_4 ⟨by omega, by omega⟩ rfl (by decide) ?_
    refine a_aload_n (j := 0) dX6_fare_36 rfl rfl (Nat.le_of_ble_eq_true rfl) ?_
    refine b_get (a := a) (z := v1) (t := 0) dX6_fare_37 fwX6_29 (by have := ht.1; omega) ht.2.1 (by decide) (tr_s ht (by decide)) rfl e1 ?_
    refine a_iconst dX6_fare_40 ⟨by decide, by decide⟩ ?_
    refine a_idiv (z := (v1 / 2)) dX6_fare_41 (by omega) (w_divN (by omega) (by omega) (by omega)) ?_
    exact a_iret dX6_fare_42 rfl (post_v k (by unfold farF; split <;> (try split) <;> (try split) <;> omega))
  · refine a_tblIn (tgt := 51) 3 dX6_fare_4 ⟨by omega, by omega⟩ rfl (by decide) ?_
    refine a_iconst dX6_fare_51 ⟨by decide, by decide⟩ ?_
    refine a_aload_n (j := 0) dX6_fare_52 rfl rfl (Nat.le_of_ble_eq_true rfl) ?_
    refine b_get (a := a) (z := v1) (t := 0) dX6_fare_53 fwX6_29 (by have := ht.1; omega) ht.2.1 (by decide) (tr_s ht (by decide)) rfl e1 ?_
    refine a_bipush dX6_fare_56 ⟨by decide, by decide, by decide⟩ ?_
    refine a_iadd (z := (v1 + 10)) dX6_fare_58 (w_ok (by omega) (by omega)) ?_
    refine a_imul (z := (2 * (v1 + 10))) dX6_fare_59 (w_ok (by omega) (by omega)) ?_
    exact a_iret dX6_fare_60 rfl (post_v k (by unfold farF; split <;> (try split) <;> (try split) <;> omega))
  · refine a_tblOut (tgt := 61) dX6_fare_4 (by omega) (by decide) ?_
    refine a_aload_n (j := 0) dX6_fare_61 rfl rfl (Nat.le_of_ble_eq_true rfl) ?_
    refine b_get (a := a) (z := v1) (t := 0) dX6_fare_62 fwX6_29 (by have := ht.1; omega) ht.2.1 (by decide) (tr_s ht (by decide)) rfl e1 ?_
    exact a_iret dX6_fare_65 rfl (post_v k (by unfold farF; split <;> (try split) <;> (try split) <;> omega))
theorem c_X6_usualWait {γ : GT} {d : Nat} {a : Nat} {h : Nat → Nat → Int} {τ : List AC} {Post : Option AV → List AC → Prop} (hd : 0 ≤ d) (ht : isTr a) {v1 : Int} (e1 : h a 0 = v1) (k : Post (some (vI (uwF v1))) (mk h τ)) : Cj γ mX6_usualWait d 0 0 [vA a] (mk h τ) Post := by
  refine c_of (by decide) (Nat.le_of_ble_eq_true rfl) ?_
  show Aj γ mX6_usualWait d 0 0 Post 0 [(0, vA a)] [] (mk h τ)
  refine a_aload_n (j := 0) dX6_usualWait_0 rfl rfl (Nat.le_of_ble_eq_true rfl) ?_
  refine b_get (a := a) (z := v1) (t := 0) dX6_usualWait_1 fwX6_20 (by have := ht.1; omega) ht.2.1 (by decide) (tr_s ht (by decide)) rfl e1 ?_
  rcases (show v1 = 2 ∨ v1 = 4 ∨ v1 = 5 ∨ (¬ v1 = 2 ∧ ¬ v1 = 4 ∧ ¬ v1 = 5) by omega) with c4_1 | c4_1 | c4_1 | c4_1
  · refine a_tblIn (tgt := 36) 0 dX6_usualWait_4 ⟨by omega, by omega⟩ rfl (by decide) ?_
    refine a_iconst dX6_usualWait_36 ⟨by decide, by decide⟩ ?_
    exact a_iret dX6_usualWait_37 rfl (post_v k (by unfold uwF; split <;> (try split) <;> omega))
  · refine a_tblIn (tgt := 38) 2 dX6_usualWait_4 ⟨by omega, by omega⟩ rfl (by decide) ?_
    refine a_bipush dX6_usualWait_38 ⟨by decide, by decide, by decide⟩ ?_
    exact a_iret dX6_usualWait_40 rfl (post_v k (by unfold uwF; split <;> (try split) <;> omega))
  · refine a_tblIn (tgt := 41) 3 dX6_usualWait_4 ⟨by omega, by omega⟩ rfl (by decide) ?_
    refine a_bipush dX6_usualWait_41 ⟨by decide, by decide, by decide⟩ ?_
    exact a_iret dX6_usualWait_43 rfl (post_v k (by unfold uwF; split <;> (try split) <;> omega))
  · rcases (show v1 = 3 ∨ (v1 < 2 ∨ 5 < v1) by omega) with q_ | q_
    · refine a_tblIn (tgt := 44) 1 dX6_usualWait_4 ⟨by omega, by omega⟩ rfl (by decide) ?_
      refine a_iconst dX6_usualWait_44 ⟨by decide, by decide⟩ ?_
      exact a_iret dX6_usualWait_45 rfl (post_v k (by unfold uwF; split <;> (try split) <;> omega))
    · refine a_tblOut (tgt := 44) dX6_usualWait_4 (by omega) (by decide) ?_
      refine a_iconst dX6_usualWait_44 ⟨by decide, by decide⟩ ?_
      exact a_iret dX6_usualWait_45 rfl (post_v k (by unfold uwF; split <;> (try split) <;> omega))
theorem c_X6_delayBy {γ : GT} {d : Nat} {a : Nat} {s g : Int} {h : Nat → Nat → Int} {τ : List AC} {Post : Option AV → List AC → Prop} (hd : 0 ≤ d) (ht : isTr a) {v1 : Int} (e1 : h a 0 = v1) (hr : 0 ≤ s ∧ s ≤ 3 ∧ 0 ≤ g ∧ g ≤ 1000) (k : Post (some (vI (delF v1 s g))) (mk h τ)) : Cj γ mX6_delayBy d 0 0 [vA a, vI s, vI g] (mk h τ) Post := by
  refine c_of (by decide) (Nat.le_of_ble_eq_true rfl) ?_
  show Aj γ mX6_delayBy d 0 0 Post 0 [(0, vA a), (1, vI s), (2, vI g)] [] (mk h τ)
  refine a_aload_n (j := 0) dX6_delayBy_0 rfl rfl (Nat.le_of_ble_eq_true rfl) ?_
  refine b_get (a := a) (z := v1) (t := 0) dX6_delayBy_1 fwX6_20 (by have := ht.1; omega) ht.2.1 (by decide) (tr_s ht (by decide)) rfl e1 ?_
  rcases (show v1 = 1 ∨ v1 = 2 ∨ v1 = 3 ∨ v1 = 4 ∨ (¬ v1 = 1 ∧ ¬ v1 = 2 ∧ ¬ v1 = 3 ∧ ¬ v1 = 4) by omega) with c4_1 | c4_1 | c4_1 | c4_1 | c4_1
  · refine a_tblIn (tgt := 36) 0 dX6_delayBy_4 ⟨by omega, by omega⟩ rfl (by decide) ?_
    refine a_bipush dX6_delayBy_36 ⟨by decide, by decide, by decide⟩ ?_
    refine a_iload_n (j := 1) dX6_delayBy_38 rfl rfl ?_
    refine a_imul (z := (7 * s)) dX6_delayBy_39 (w_ok (by omega) (by omega)) ?_
    exact a_iret dX6_delayBy_40 rfl (post_v k (by unfold delF; split <;> (try split) <;> (try split) <;> omega))
  · refine a_tblIn (tgt := 50) 1 dX6_delayBy_4 ⟨by omega, by omega⟩ rfl (by decide) ?_
    refine a_iconst dX6_delayBy_50 ⟨by decide, by decide⟩ ?_
    exact a_iret dX6_delayBy_51 rfl (post_v k (by unfold delF; split <;> (try split) <;> (try split) <;> omega))
  · refine a_tblIn (tgt := 41) 2 dX6_delayBy_4 ⟨by omega, by omega⟩ rfl (by decide) ?_
    refine a_bipush dX6_delayBy_41 ⟨by decide, by decide, by decide⟩ ?_
    refine a_iload_n (j := 1) dX6_delayBy_43 rfl rfl ?_
    refine a_imul (z := (7 * s)) dX6_delayBy_44 (w_ok (by omega) (by omega)) ?_
    refine a_iload_n (j := 2) dX6_delayBy_45 rfl rfl ?_
    refine a_iconst dX6_delayBy_46 ⟨by decide, by decide⟩ ?_
    refine a_idiv (z := (g / 2)) dX6_delayBy_47 (by omega) (w_divN (by omega) (by omega) (by omega)) ?_
    refine a_iadd (z := ((7 * s) + (g / 2))) dX6_delayBy_48 (w_ok (by omega) (by omega)) ?_
    exact a_iret dX6_delayBy_49 rfl (post_v k (by unfold delF; split <;> (try split) <;> (try split) <;> omega))
  · refine a_tblIn (tgt := 50) 3 dX6_delayBy_4 ⟨by omega, by omega⟩ rfl (by decide) ?_
    refine a_iconst dX6_delayBy_50 ⟨by decide, by decide⟩ ?_
    exact a_iret dX6_delayBy_51 rfl (post_v k (by unfold delF; split <;> (try split) <;> (try split) <;> omega))
  · refine a_tblOut (tgt := 52) dX6_delayBy_4 (by omega) (by decide) ?_
    refine a_iconst dX6_delayBy_52 ⟨by decide, by decide⟩ ?_
    refine a_iload_n (j := 1) dX6_delayBy_53 rfl rfl ?_
    refine a_imul (z := (5 * s)) dX6_delayBy_54 (w_ok (by omega) (by omega)) ?_
    exact a_iret dX6_delayBy_55 rfl (post_v k (by unfold delF; split <;> (try split) <;> (try split) <;> omega))
theorem c_X6_figure {γ : GT} {d : Nat} {a : Nat} {q : Int} {h : Nat → Nat → Int} {τ : List AC} {Post : Option AV → List AC → Prop} (hd : 1 ≤ d) (ht : isTr a) {v1 : Int} (e1 : h a 5 = v1) {v2 : Int} (e2 : h a 0 = v2) {v3 : Int} (e3 : h a 1 = v3) {v4 : Int} (e4 : h a 2 = v4) {v5 : Int} (e5 : h a 3 = v5) {v6 : Int} (e6 : h a 4 = v6) {v7 : Int} (e7 : h a 6 = v7) (hr : 0 ≤ v1 ∧ v1 ≤ 999) (k1 : (q = 0) → Post (some (vI v2)) (mk h τ)) (k2 : (q = 1) → Post (some (vI v3)) (mk h τ)) (k3 : (q = 2) → Post (some (vI v4)) (mk h τ)) (k4 : (q = 3) → Post (some (vI v5)) (mk h τ)) (k5 : (q = 4) → Post (some (vI v6)) (mk h τ)) (k6 : (q = 5) → Post (some (vI v1)) (mk h τ)) (k7 : (q = 6) → Post (some (vI v7)) (mk h τ)) (k8 : (¬ q = 0 ∧ ¬ q = 1 ∧ ¬ q = 2 ∧ ¬ q = 3 ∧ ¬ q = 4 ∧ ¬ q = 5 ∧ ¬ q = 6) → Post (some (vI (farF v2 v1))) (mk h τ)) : Cj γ mX6_figure d 0 0 [vA a, vI q] (mk h τ) Post := by
  refine c_of (by decide) (Nat.le_of_ble_eq_true rfl) ?_
  show Aj γ mX6_figure d 0 0 Post 0 [(0, vA a), (1, vI q)] [] (mk h τ)
  refine a_iload_n (j := 1) dX6_figure_0 rfl rfl ?_
  rcases (show q = 0 ∨ q = 1 ∨ q = 2 ∨ q = 3 ∨ q = 4 ∨ q = 5 ∨ q = 6 ∨ (¬ q = 0 ∧ ¬ q = 1 ∧ ¬ q = 2 ∧ ¬ q = 3 ∧ ¬ q = 4 ∧ ¬ q = 5 ∧ ¬ q = 6) by omega) with c1_1 | c1_1 | c1_1 | c1_1 | c1_1 | c1_1 | c1_1 | c1_1
  · refine a_tblIn (tgt := 44) 0 dX6_figure_1 ⟨by omega, by omega⟩ rfl (by decide) ?_
    refine a_aload_n (j := 0) dX6_figure_44 rfl rfl (Nat.le_of_ble_eq_true rfl) ?_
    refine b_get (a := a) (z := v2) (t := 0) dX6_figure_45 fwX6_20 (by have := ht.1; omega) ht.2.1 (by decide) (tr_s ht (by decide)) rfl e2 ?_
    exact a_iret dX6_figure_48 rfl (k1 c1_1)
  · refine a_tblIn (tgt := 49) 1 dX6_figure_1 ⟨by omega, by omega⟩ rfl (by decide) ?_
    refine a_aload_n (j := 0) dX6_figure_49 rfl rfl (Nat.le_of_ble_eq_true rfl) ?_
    refine b_get (a := a) (z := v3) (t := 0) dX6_figure_50 fwX6_23 (by have := ht.1; omega) ht.2.1 (by decide) (tr_s ht (by decide)) rfl e3 ?_
    exact a_iret dX6_figure_53 rfl (k2 c1_1)
  · refine a_tblIn (tgt := 54) 2 dX6_figure_1 ⟨by omega, by omega⟩ rfl (by decide) ?_
    refine a_aload_n (j := 0) dX6_figure_54 rfl rfl (Nat.le_of_ble_eq_true rfl) ?_
    refine b_get (a := a) (z := v4) (t := 0) dX6_figure_55 fwX6_26 (by have := ht.1; omega) ht.2.1 (by decide) (tr_s ht (by decide)) rfl e4 ?_
    exact a_iret dX6_figure_58 rfl (k3 c1_1)
  · refine a_tblIn (tgt := 59) 3 dX6_figure_1 ⟨by omega, by omega⟩ rfl (by decide) ?_
    refine a_aload_n (j := 0) dX6_figure_59 rfl rfl (Nat.le_of_ble_eq_true rfl) ?_
    refine b_get (a := a) (z := v5) (t := 0) dX6_figure_60 fwX6_38 (by have := ht.1; omega) ht.2.1 (by decide) (tr_s ht (by decide)) rfl e5 ?_
    exact a_iret dX6_figure_63 rfl (k4 c1_1)
  · refine a_tblIn (tgt := 64) 4 dX6_figure_1 ⟨by omega, by omega⟩ rfl (by decide) ?_
    refine a_aload_n (j := 0) dX6_figure_64 rfl rfl (Nat.le_of_ble_eq_true rfl) ?_
    refine b_get (a := a) (z := v6) (t := 0) dX6_figure_65 fwX6_41 (by have := ht.1; omega) ht.2.1 (by decide) (tr_s ht (by decide)) rfl e6 ?_
    exact a_iret dX6_figure_68 rfl (k5 c1_1)
  · refine a_tblIn (tgt := 69) 5 dX6_figure_1 ⟨by omega, by omega⟩ rfl (by decide) ?_
    refine a_aload_n (j := 0) dX6_figure_69 rfl rfl (Nat.le_of_ble_eq_true rfl) ?_
    refine b_get (a := a) (z := v1) (t := 0) dX6_figure_70 fwX6_29 (by have := ht.1; omega) ht.2.1 (by decide) (tr_s ht (by decide)) rfl e1 ?_
    exact a_iret dX6_figure_73 rfl (k6 c1_1)
  · refine a_tblIn (tgt := 74) 6 dX6_figure_1 ⟨by omega, by omega⟩ rfl (by decide) ?_
    refine a_aload_n (j := 0) dX6_figure_74 rfl rfl (Nat.le_of_ble_eq_true rfl) ?_
    refine b_get (a := a) (z := v7) (t := 0) dX6_figure_75 fwX6_10 (by have := ht.1; omega) ht.2.1 (by decide) (tr_s ht (by decide)) rfl e7 ?_
    exact a_iret dX6_figure_78 rfl (k7 c1_1)
  · refine a_tblOut (tgt := 79) dX6_figure_1 (by omega) (by decide) ?_
    refine a_aload_n (j := 0) dX6_figure_79 rfl rfl (Nat.le_of_ble_eq_true rfl) ?_
    refine b_callV (d' := d - 1) (mc' := 0) (ms' := 0) (mc1 := 0) (ms1 := 0) (st := []) (b := a) [] dX6_figure_80 mwX6_fare lkX6_50 (by have := ht.1; omega) ht.2.1 rc_X6 rfl (Nat.le_of_ble_eq_true rfl) (by omega) rfl rfl (c_X6_fare (v1 := v1) (v2 := v2) (by omega) ht e1 e2 (show 0 ≤ v1 ∧ v1 ≤ 999 by omega) ?_)
    show Aj γ mX6_figure d 0 0 Post 83 [(0, vA a), (1, vI q)] [vI (farF v2 v1)] (mk h τ)
    exact a_iret dX6_figure_83 rfl (k8 c1_1)
theorem c_X8_stampAnew {γ : GT} {d : Nat}  {h : Nat → Nat → Int} {τ : List AC} {Post : Option AV → List AC → Prop} (hd : 0 ≤ d) {v1 : Int} (e1 : h 0 3 = v1) (hs : 0 ≤ v1 ∧ v1 ≤ 1000) (k : Post none (mk (up2 (up2 h 0 3 (v1 + 1)) 1 0 (v1 + 1)) τ)) : Cj γ mX8_stampAnew d 0 0 [vA 0] (mk h τ) Post := by
  refine c_of (by decide) (Nat.le_of_ble_eq_true rfl) ?_
  show Aj γ mX8_stampAnew d 0 0 Post 0 [(0, vA 0)] [] (mk h τ)
  refine a_aload_n (j := 0) dX8_stampAnew_0 rfl rfl (Nat.le_of_ble_eq_true rfl) ?_
  refine a_dup dX8_stampAnew_1 (fun h => nomatch h) ?_
  refine b_get (a := 0) (z := v1) (t := 0) dX8_stampAnew_2 fwX8_345 (by decide) rfl (by decide) rfl rfl e1 ?_
  refine a_iconst dX8_stampAnew_5 ⟨by decide, by decide⟩ ?_
  refine a_iadd (z := (v1 + 1)) dX8_stampAnew_6 (w_ok (by omega) (by omega)) ?_
  refine b_put (a := 0) (v := vI (v1 + 1)) dX8_stampAnew_7 pwX8_345 (fun h => nomatch h) (by decide) rfl (by decide) rfl rfl (fit_int _) ?_
  show Aj γ mX8_stampAnew d 0 0 Post 10 [(0, vA 0)] [] (mk (up2 h 0 3 (v1 + 1)) τ)
  refine a_aload_n (j := 0) dX8_stampAnew_10 rfl rfl (Nat.le_of_ble_eq_true rfl) ?_
  refine b_getp (a := 0) (p := 1) dX8_stampAnew_11 fwX8_14 (by decide) rfl (by decide) rfl rfl ?_
  refine a_aload_n (j := 0) dX8_stampAnew_14 rfl rfl (Nat.le_of_ble_eq_true rfl) ?_
  refine b_get (a := 0) (z := (v1 + 1)) (t := 0) dX8_stampAnew_15 fwX8_345 (by decide) rfl (by decide) rfl rfl up2_at ?_
  refine b_put (a := 1) (v := vI (v1 + 1)) dX8_stampAnew_18 pwX8_348 (fun h => nomatch h) (by decide) rfl (by decide) rfl rfl (fit_int _) ?_
  show Aj γ mX8_stampAnew d 0 0 Post 21 [(0, vA 0)] [] (mk (up2 (up2 h 0 3 (v1 + 1)) 1 0 (v1 + 1)) τ)
  exact a_vret dX8_stampAnew_21 rfl k
