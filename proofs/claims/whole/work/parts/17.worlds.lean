set_option maxHeartbeats 8000000 in
theorem c_X7_isStop {γ : GT} {d : Nat} {w : Nat} {s : Int} {h : Nat → Nat → Int} {τ : List AC} {Post : Option AV → List AC → Prop} (hd : 1 ≤ d) (hw : isWd w) {v1 : Int} (e1 : h w 1 = v1) (hr : 0 ≤ v1 ∧ v1 ≤ 6) (kT : 0 ≤ s ∧ s < v1 → Post (some (vI 1)) (mk h τ)) (kF : ¬ (0 ≤ s ∧ s < v1) → Post (some (vI 0)) (mk h τ)) : Cj γ mX7_isStop d 0 0 [vA w, vI s] (mk h τ) Post := by
  refine c_of (by decide) (Nat.le_of_ble_eq_true rfl) ?_
  show Aj γ mX7_isStop d 0 0 Post 0 [(0, vA w), (1, vI s)] [] (mk h τ)
  refine a_iload_n (j := 1) dX7_isStop_0 rfl rfl ?_
  refine a_iconst dX7_isStop_1 ⟨by decide, by decide⟩ ?_
  refine a_aload_n (j := 0) dX7_isStop_2 rfl rfl (Nat.le_of_ble_eq_true rfl) ?_
  refine b_get (a := w) (z := v1) (t := 0) dX7_isStop_3 fwX7_44 (by rcases hw with rfl | rfl <;> decide) (by rcases hw with rfl | rfl <;> rfl) (by decide) (by rcases hw with rfl | rfl <;> rfl) rfl e1 ?_
  refine a_iconst dX7_isStop_6 ⟨by decide, by decide⟩ ?_
  refine a_isub (z := (v1 - 1)) dX7_isStop_7 (w_ok (by omega) (by omega)) ?_
  refine a_callS (d' := d - 1) (mc' := 0) (ms' := 0) (mc1 := 0) (ms1 := 0) (st := []) [vI s, vI 0, vI (v1 - 1)] dX7_isStop_8 mwX8_within lkX7_47 rfl (Nat.le_of_ble_eq_true rfl) (by omega) rfl rfl (c_X8_within  (by omega)    (fun t8_1 => ?_) (fun t8_1 => ?_))
  · have t8_1 : 0 ≤ s ∧ s ≤ (v1 - 1) := t8_1
    show Aj γ mX7_isStop d 0 0 Post 11 [(0, vA w), (1, vI s)] [vI 1] (mk h τ)
    exact a_zret dX7_isStop_11 rfl (by first | exact Or.inl rfl | exact Or.inr rfl | omega) (kT (by omega))
  · have t8_1 : ¬ (0 ≤ s ∧ s ≤ (v1 - 1)) := t8_1
    show Aj γ mX7_isStop d 0 0 Post 11 [(0, vA w), (1, vI s)] [vI 0] (mk h τ)
    exact a_zret dX7_isStop_11 rfl (by first | exact Or.inl rfl | exact Or.inr rfl | omega) (kF (by omega))
set_option maxHeartbeats 8000000 in
theorem c_X7_isTrain {γ : GT} {d : Nat} {w : Nat} {s : Int} {h : Nat → Nat → Int} {τ : List AC} {Post : Option AV → List AC → Prop} (hd : 1 ≤ d) (hw : isWd w) {v1 : Int} (e1 : h w 3 = v1) (hr : 0 ≤ v1 ∧ v1 ≤ 12) (kT : 0 ≤ s ∧ s < v1 → Post (some (vI 1)) (mk h τ)) (kF : ¬ (0 ≤ s ∧ s < v1) → Post (some (vI 0)) (mk h τ)) : Cj γ mX7_isTrain d 0 0 [vA w, vI s] (mk h τ) Post := by
  refine c_of (by decide) (Nat.le_of_ble_eq_true rfl) ?_
  show Aj γ mX7_isTrain d 0 0 Post 0 [(0, vA w), (1, vI s)] [] (mk h τ)
  refine a_iload_n (j := 1) dX7_isTrain_0 rfl rfl ?_
  refine a_iconst dX7_isTrain_1 ⟨by decide, by decide⟩ ?_
  refine a_aload_n (j := 0) dX7_isTrain_2 rfl rfl (Nat.le_of_ble_eq_true rfl) ?_
  refine b_get (a := w) (z := v1) (t := 0) dX7_isTrain_3 fwX7_51 (by rcases hw with rfl | rfl <;> decide) (by rcases hw with rfl | rfl <;> rfl) (by decide) (by rcases hw with rfl | rfl <;> rfl) rfl e1 ?_
  refine a_iconst dX7_isTrain_6 ⟨by decide, by decide⟩ ?_
  refine a_isub (z := (v1 - 1)) dX7_isTrain_7 (w_ok (by omega) (by omega)) ?_
  refine a_callS (d' := d - 1) (mc' := 0) (ms' := 0) (mc1 := 0) (ms1 := 0) (st := []) [vI s, vI 0, vI (v1 - 1)] dX7_isTrain_8 mwX8_within lkX7_47 rfl (Nat.le_of_ble_eq_true rfl) (by omega) rfl rfl (c_X8_within  (by omega)    (fun t8_1 => ?_) (fun t8_1 => ?_))
  · have t8_1 : 0 ≤ s ∧ s ≤ (v1 - 1) := t8_1
    show Aj γ mX7_isTrain d 0 0 Post 11 [(0, vA w), (1, vI s)] [vI 1] (mk h τ)
    exact a_zret dX7_isTrain_11 rfl (by first | exact Or.inl rfl | exact Or.inr rfl | omega) (kT (by omega))
  · have t8_1 : ¬ (0 ≤ s ∧ s ≤ (v1 - 1)) := t8_1
    show Aj γ mX7_isTrain d 0 0 Post 11 [(0, vA w), (1, vI s)] [vI 0] (mk h τ)
    exact a_zret dX7_isTrain_11 rfl (by first | exact Or.inl rfl | exact Or.inr rfl | omega) (kF (by omega))
/-- what a train costs, by kind and price -/
def farF (k p : Int) : Int := if k = 1 ∨ k = 3 then p / 2 else if k = 2 then p + 10 else if k = 4 then 2 * (p + 10) else p
/-- what it waits without a text -/
def uwF (k : Int) : Int := if k = 2 then 5 else if k = 4 ∨ k = 5 then 10 else 0
/-- its delay by a step s, its host's by s being g -/
def delF (k s g : Int) : Int := if k = 1 then 7 * s else if k = 3 then 7 * s + g / 2 else if k = 2 ∨ k = 4 then 0 else 5 * s
set_option maxHeartbeats 8000000 in
theorem c_X6_fare {γ : GT} {d : Nat} {a : Nat} {h : Nat → Nat → Int} {τ : List AC} {Post : Option AV → List AC → Prop} (hd : 0 ≤ d) (ht : isTr a) {v1 : Int} (e1 : h a 5 = v1) {v2 : Int} (e2 : h a 0 = v2) (hr : 0 ≤ v1 ∧ v1 ≤ 999) (kQ : Post (some (vI (farF v2 v1))) (mk h τ)) : Cj γ mX6_fare d 0 0 [vA a] (mk h τ) Post := by
  refine c_of (by decide) (Nat.le_of_ble_eq_true rfl) ?_
  show Aj γ mX6_fare d 0 0 Post 0 [(0, vA a)] [] (mk h τ)
  refine a_aload_n (j := 0) dX6_fare_0 rfl rfl (Nat.le_of_ble_eq_true rfl) ?_
  refine b_get (a := a) (z := v2) (t := 0) dX6_fare_1 fwX6_20 (by have := ht.1; omega) ht.2.1 (by decide) (tr_s ht (by decide)) rfl e2 ?_
  rcases (show v2 = 1 ∨ v2 = 2 ∨ v2 = 3 ∨ v2 = 4 ∨ (¬ v2 = 1 ∧ ¬ v2 = 2 ∧ ¬ v2 = 3 ∧ ¬ v2 = 4) by omega) with c4_1 | c4_1 | c4_1 | c4_1 | c4_1
  · refine a_tblIn (tgt := 36) 0 dX6_fare_4 ⟨by omega, by omega⟩ rfl (by decide) ?_
    refine a_aload_n (j := 0) dX6_fare_36 rfl rfl (Nat.le_of_ble_eq_true rfl) ?_
    refine b_get (a := a) (z := v1) (t := 0) dX6_fare_37 fwX6_29 (by have := ht.1; omega) ht.2.1 (by decide) (tr_s ht (by decide)) rfl e1 ?_
    refine a_iconst dX6_fare_40 ⟨by decide, by decide⟩ ?_
    refine a_idiv (z := (v1 / 2)) dX6_fare_41 (by omega) (w_divN (by omega) (by omega) (by omega)) ?_
    exact a_iret dX6_fare_42 rfl (post_v kQ (by unfold farF; split <;> (try split) <;> (try split) <;> omega))
  · refine a_tblIn (tgt := 43) 1 dX6_fare_4 ⟨by omega, by omega⟩ rfl (by decide) ?_
    refine a_aload_n (j := 0) dX6_fare_43 rfl rfl (Nat.le_of_ble_eq_true rfl) ?_
    refine b_get (a := a) (z := v1) (t := 0) dX6_fare_44 fwX6_29 (by have := ht.1; omega) ht.2.1 (by decide) (tr_s ht (by decide)) rfl e1 ?_
    refine a_bipush dX6_fare_47 ⟨by decide, by decide, by decide⟩ ?_
    refine a_iadd (z := (v1 + 10)) dX6_fare_49 (w_ok (by omega) (by omega)) ?_
    exact a_iret dX6_fare_50 rfl (post_v kQ (by unfold farF; split <;> (try split) <;> (try split) <;> omega))
  · refine a_tblIn (tgt := 36) 2 dX6_fare_4 ⟨by omega, by omega⟩ rfl (by decide) ?_
    refine a_aload_n (j := 0) dX6_fare_36 rfl rfl (Nat.le_of_ble_eq_true rfl) ?_
    refine b_get (a := a) (z := v1) (t := 0) dX6_fare_37 fwX6_29 (by have := ht.1; omega) ht.2.1 (by decide) (tr_s ht (by decide)) rfl e1 ?_
    refine a_iconst dX6_fare_40 ⟨by decide, by decide⟩ ?_
    refine a_idiv (z := (v1 / 2)) dX6_fare_41 (by omega) (w_divN (by omega) (by omega) (by omega)) ?_
    exact a_iret dX6_fare_42 rfl (post_v kQ (by unfold farF; split <;> (try split) <;> (try split) <;> omega))
  · refine a_tblIn (tgt := 51) 3 dX6_fare_4 ⟨by omega, by omega⟩ rfl (by decide) ?_
    refine a_iconst dX6_fare_51 ⟨by decide, by decide⟩ ?_
    refine a_aload_n (j := 0) dX6_fare_52 rfl rfl (Nat.le_of_ble_eq_true rfl) ?_
    refine b_get (a := a) (z := v1) (t := 0) dX6_fare_53 fwX6_29 (by have := ht.1; omega) ht.2.1 (by decide) (tr_s ht (by decide)) rfl e1 ?_
    refine a_bipush dX6_fare_56 ⟨by decide, by decide, by decide⟩ ?_
    refine a_iadd (z := (v1 + 10)) dX6_fare_58 (w_ok (by omega) (by omega)) ?_
    refine a_imul (z := (2 * (v1 + 10))) dX6_fare_59 (w_ok (by omega) (by omega)) ?_
    exact a_iret dX6_fare_60 rfl (post_v kQ (by unfold farF; split <;> (try split) <;> (try split) <;> omega))
  · refine a_tblOut (tgt := 61) dX6_fare_4 (by omega) (by decide) ?_
    refine a_aload_n (j := 0) dX6_fare_61 rfl rfl (Nat.le_of_ble_eq_true rfl) ?_
    refine b_get (a := a) (z := v1) (t := 0) dX6_fare_62 fwX6_29 (by have := ht.1; omega) ht.2.1 (by decide) (tr_s ht (by decide)) rfl e1 ?_
    exact a_iret dX6_fare_65 rfl (post_v kQ (by unfold farF; split <;> (try split) <;> (try split) <;> omega))
set_option maxHeartbeats 8000000 in
theorem c_X6_usualWait {γ : GT} {d : Nat} {a : Nat} {h : Nat → Nat → Int} {τ : List AC} {Post : Option AV → List AC → Prop} (hd : 0 ≤ d) (ht : isTr a) {v1 : Int} (e1 : h a 0 = v1) (kQ : Post (some (vI (uwF v1))) (mk h τ)) : Cj γ mX6_usualWait d 0 0 [vA a] (mk h τ) Post := by
  refine c_of (by decide) (Nat.le_of_ble_eq_true rfl) ?_
  show Aj γ mX6_usualWait d 0 0 Post 0 [(0, vA a)] [] (mk h τ)
  refine a_aload_n (j := 0) dX6_usualWait_0 rfl rfl (Nat.le_of_ble_eq_true rfl) ?_
  refine b_get (a := a) (z := v1) (t := 0) dX6_usualWait_1 fwX6_20 (by have := ht.1; omega) ht.2.1 (by decide) (tr_s ht (by decide)) rfl e1 ?_
  rcases (show v1 = 2 ∨ v1 = 4 ∨ v1 = 5 ∨ (¬ v1 = 2 ∧ ¬ v1 = 4 ∧ ¬ v1 = 5) by omega) with c4_1 | c4_1 | c4_1 | c4_1
  · refine a_tblIn (tgt := 36) 0 dX6_usualWait_4 ⟨by omega, by omega⟩ rfl (by decide) ?_
    refine a_iconst dX6_usualWait_36 ⟨by decide, by decide⟩ ?_
    exact a_iret dX6_usualWait_37 rfl (post_v kQ (by unfold uwF; split <;> (try split) <;> omega))
  · refine a_tblIn (tgt := 38) 2 dX6_usualWait_4 ⟨by omega, by omega⟩ rfl (by decide) ?_
    refine a_bipush dX6_usualWait_38 ⟨by decide, by decide, by decide⟩ ?_
    exact a_iret dX6_usualWait_40 rfl (post_v kQ (by unfold uwF; split <;> (try split) <;> omega))
  · refine a_tblIn (tgt := 41) 3 dX6_usualWait_4 ⟨by omega, by omega⟩ rfl (by decide) ?_
    refine a_bipush dX6_usualWait_41 ⟨by decide, by decide, by decide⟩ ?_
    exact a_iret dX6_usualWait_43 rfl (post_v kQ (by unfold uwF; split <;> (try split) <;> omega))
  · refine a_tblDf (tgt := 44) dX6_usualWait_4 (by rcases (show v1 = 3 ∨ (v1 < 2 ∨ 5 < v1) by omega) with q_ | q_; exact Or.inr ⟨1, by omega, by omega, rfl⟩; exact Or.inl q_) (by decide) ?_
    refine a_iconst dX6_usualWait_44 ⟨by decide, by decide⟩ ?_
    exact a_iret dX6_usualWait_45 rfl (post_v kQ (by unfold uwF; split <;> (try split) <;> omega))
set_option maxHeartbeats 8000000 in
theorem c_X6_delayBy {γ : GT} {d : Nat} {a : Nat} {s g : Int} {h : Nat → Nat → Int} {τ : List AC} {Post : Option AV → List AC → Prop} (hd : 0 ≤ d) (ht : isTr a) {v1 : Int} (e1 : h a 0 = v1) (hr : 0 ≤ s ∧ s ≤ 3 ∧ 0 ≤ g ∧ g ≤ 1000) (kQ : Post (some (vI (delF v1 s g))) (mk h τ)) : Cj γ mX6_delayBy d 0 0 [vA a, vI s, vI g] (mk h τ) Post := by
  refine c_of (by decide) (Nat.le_of_ble_eq_true rfl) ?_
  show Aj γ mX6_delayBy d 0 0 Post 0 [(0, vA a), (1, vI s), (2, vI g)] [] (mk h τ)
  refine a_aload_n (j := 0) dX6_delayBy_0 rfl rfl (Nat.le_of_ble_eq_true rfl) ?_
  refine b_get (a := a) (z := v1) (t := 0) dX6_delayBy_1 fwX6_20 (by have := ht.1; omega) ht.2.1 (by decide) (tr_s ht (by decide)) rfl e1 ?_
  rcases (show v1 = 1 ∨ v1 = 2 ∨ v1 = 3 ∨ v1 = 4 ∨ (¬ v1 = 1 ∧ ¬ v1 = 2 ∧ ¬ v1 = 3 ∧ ¬ v1 = 4) by omega) with c4_1 | c4_1 | c4_1 | c4_1 | c4_1
  · refine a_tblIn (tgt := 36) 0 dX6_delayBy_4 ⟨by omega, by omega⟩ rfl (by decide) ?_
    refine a_bipush dX6_delayBy_36 ⟨by decide, by decide, by decide⟩ ?_
    refine a_iload_n (j := 1) dX6_delayBy_38 rfl rfl ?_
    refine a_imul (z := (7 * s)) dX6_delayBy_39 (w_ok (by omega) (by omega)) ?_
    exact a_iret dX6_delayBy_40 rfl (post_v kQ (by unfold delF; split <;> (try split) <;> (try split) <;> omega))
  · refine a_tblIn (tgt := 50) 1 dX6_delayBy_4 ⟨by omega, by omega⟩ rfl (by decide) ?_
    refine a_iconst dX6_delayBy_50 ⟨by decide, by decide⟩ ?_
    exact a_iret dX6_delayBy_51 rfl (post_v kQ (by unfold delF; split <;> (try split) <;> (try split) <;> omega))
  · refine a_tblIn (tgt := 41) 2 dX6_delayBy_4 ⟨by omega, by omega⟩ rfl (by decide) ?_
    refine a_bipush dX6_delayBy_41 ⟨by decide, by decide, by decide⟩ ?_
    refine a_iload_n (j := 1) dX6_delayBy_43 rfl rfl ?_
    refine a_imul (z := (7 * s)) dX6_delayBy_44 (w_ok (by omega) (by omega)) ?_
    refine a_iload_n (j := 2) dX6_delayBy_45 rfl rfl ?_
    refine a_iconst dX6_delayBy_46 ⟨by decide, by decide⟩ ?_
    refine a_idiv (z := (g / 2)) dX6_delayBy_47 (by omega) (w_divN (by omega) (by omega) (by omega)) ?_
    refine a_iadd (z := ((7 * s) + (g / 2))) dX6_delayBy_48 (w_ok (by omega) (by omega)) ?_
    exact a_iret dX6_delayBy_49 rfl (post_v kQ (by unfold delF; split <;> (try split) <;> (try split) <;> omega))
  · refine a_tblIn (tgt := 50) 3 dX6_delayBy_4 ⟨by omega, by omega⟩ rfl (by decide) ?_
    refine a_iconst dX6_delayBy_50 ⟨by decide, by decide⟩ ?_
    exact a_iret dX6_delayBy_51 rfl (post_v kQ (by unfold delF; split <;> (try split) <;> (try split) <;> omega))
  · refine a_tblOut (tgt := 52) dX6_delayBy_4 (by omega) (by decide) ?_
    refine a_iconst dX6_delayBy_52 ⟨by decide, by decide⟩ ?_
    refine a_iload_n (j := 1) dX6_delayBy_53 rfl rfl ?_
    refine a_imul (z := (5 * s)) dX6_delayBy_54 (w_ok (by omega) (by omega)) ?_
    exact a_iret dX6_delayBy_55 rfl (post_v kQ (by unfold delF; split <;> (try split) <;> (try split) <;> omega))
set_option maxHeartbeats 8000000 in
theorem c_X6_figure {γ : GT} {d : Nat} {a : Nat} {q : Int} {h : Nat → Nat → Int} {τ : List AC} {Post : Option AV → List AC → Prop} (hd : 1 ≤ d) (ht : isTr a) {v1 : Int} (e1 : h a 5 = v1) {v2 : Int} (e2 : h a 0 = v2) {v3 : Int} (e3 : h a 1 = v3) {v4 : Int} (e4 : h a 2 = v4) {v5 : Int} (e5 : h a 3 = v5) {v6 : Int} (e6 : h a 4 = v6) {v7 : Int} (e7 : h a 6 = v7) (hr : 0 ≤ v1 ∧ v1 ≤ 999) (k1 : (q = 0) → Post (some (vI v2)) (mk h τ)) (k2 : (q = 1) → Post (some (vI v3)) (mk h τ)) (k3 : (q = 2) → Post (some (vI v4)) (mk h τ)) (k4 : (q = 3) → Post (some (vI v5)) (mk h τ)) (k5 : (q = 4) → Post (some (vI v6)) (mk h τ)) (k6 : (q = 5) → Post (some (vI v1)) (mk h τ)) (k7 : (q = 6) → Post (some (vI v7)) (mk h τ)) (k8 : (¬ q = 0 ∧ ¬ q = 1 ∧ ¬ q = 2 ∧ ¬ q = 3 ∧ ¬ q = 4 ∧ ¬ q = 5 ∧ ¬ q = 6) → Post (some (vI (farF v2 v1))) (mk h τ)) : Cj γ mX6_figure d 0 0 [vA a, vI q] (mk h τ) Post := by
  refine c_of (by decide) (Nat.le_of_ble_eq_true rfl) ?_
  show Aj γ mX6_figure d 0 0 Post 0 [(0, vA a), (1, vI q)] [] (mk h τ)
  refine a_iload_n (j := 1) dX6_figure_0 rfl rfl ?_
  rcases (show q = 0 ∨ q = 1 ∨ q = 2 ∨ q = 3 ∨ q = 4 ∨ q = 5 ∨ q = 6 ∨ (¬ q = 0 ∧ ¬ q = 1 ∧ ¬ q = 2 ∧ ¬ q = 3 ∧ ¬ q = 4 ∧ ¬ q = 5 ∧ ¬ q = 6) by omega) with c1_1 | c1_1 | c1_1 | c1_1 | c1_1 | c1_1 | c1_1 | c1_1
  · refine a_tblIn (tgt := 44) 0 dX6_figure_1 ⟨by omega, by omega⟩ rfl (by decide) ?_
    refine a_aload_n (j := 0) dX6_figure_44 rfl rfl (Nat.le_of_ble_eq_true rfl) ?_
    refine b_get (a := a) (z := v2) (t := 0) dX6_figure_45 fwX6_20 (by have := ht.1; omega) ht.2.1 (by decide) (tr_s ht (by decide)) rfl e2 ?_
    exact a_iret dX6_figure_48 rfl (k1 c1_1)
  · refine a_tblIn (tgt := 49) 1 dX6_figure_1 ⟨by omega, by omega⟩ rfl (by decide) ?_
    refine a_aload_n (j := 0) dX6_figure_49 rfl rfl (Nat.le_of_ble_eq_true rfl) ?_
    refine b_get (a := a) (z := v3) (t := 0) dX6_figure_50 fwX6_23 (by have := ht.1; omega) ht.2.1 (by decide) (tr_s ht (by decide)) rfl e3 ?_
    exact a_iret dX6_figure_53 rfl (k2 c1_1)
  · refine a_tblIn (tgt := 54) 2 dX6_figure_1 ⟨by omega, by omega⟩ rfl (by decide) ?_
    refine a_aload_n (j := 0) dX6_figure_54 rfl rfl (Nat.le_of_ble_eq_true rfl) ?_
    refine b_get (a := a) (z := v4) (t := 0) dX6_figure_55 fwX6_26 (by have := ht.1; omega) ht.2.1 (by decide) (tr_s ht (by decide)) rfl e4 ?_
    exact a_iret dX6_figure_58 rfl (k3 c1_1)
  · refine a_tblIn (tgt := 59) 3 dX6_figure_1 ⟨by omega, by omega⟩ rfl (by decide) ?_
    refine a_aload_n (j := 0) dX6_figure_59 rfl rfl (Nat.le_of_ble_eq_true rfl) ?_
    refine b_get (a := a) (z := v5) (t := 0) dX6_figure_60 fwX6_38 (by have := ht.1; omega) ht.2.1 (by decide) (tr_s ht (by decide)) rfl e5 ?_
    exact a_iret dX6_figure_63 rfl (k4 c1_1)
  · refine a_tblIn (tgt := 64) 4 dX6_figure_1 ⟨by omega, by omega⟩ rfl (by decide) ?_
    refine a_aload_n (j := 0) dX6_figure_64 rfl rfl (Nat.le_of_ble_eq_true rfl) ?_
    refine b_get (a := a) (z := v6) (t := 0) dX6_figure_65 fwX6_41 (by have := ht.1; omega) ht.2.1 (by decide) (tr_s ht (by decide)) rfl e6 ?_
    exact a_iret dX6_figure_68 rfl (k5 c1_1)
  · refine a_tblIn (tgt := 69) 5 dX6_figure_1 ⟨by omega, by omega⟩ rfl (by decide) ?_
    refine a_aload_n (j := 0) dX6_figure_69 rfl rfl (Nat.le_of_ble_eq_true rfl) ?_
    refine b_get (a := a) (z := v1) (t := 0) dX6_figure_70 fwX6_29 (by have := ht.1; omega) ht.2.1 (by decide) (tr_s ht (by decide)) rfl e1 ?_
    exact a_iret dX6_figure_73 rfl (k6 c1_1)
  · refine a_tblIn (tgt := 74) 6 dX6_figure_1 ⟨by omega, by omega⟩ rfl (by decide) ?_
    refine a_aload_n (j := 0) dX6_figure_74 rfl rfl (Nat.le_of_ble_eq_true rfl) ?_
    refine b_get (a := a) (z := v7) (t := 0) dX6_figure_75 fwX6_10 (by have := ht.1; omega) ht.2.1 (by decide) (tr_s ht (by decide)) rfl e7 ?_
    exact a_iret dX6_figure_78 rfl (k7 c1_1)
  · refine a_tblOut (tgt := 79) dX6_figure_1 (by omega) (by decide) ?_
    refine a_aload_n (j := 0) dX6_figure_79 rfl rfl (Nat.le_of_ble_eq_true rfl) ?_
    refine b_callV (d' := d - 1) (mc' := 0) (ms' := 0) (mc1 := 0) (ms1 := 0) (st := []) (b := a) [] dX6_figure_80 mwX6_fare lkX6_50 (by have := ht.1; omega) ht.2.1 rc_X6 rfl (Nat.le_of_ble_eq_true rfl) (by omega) rfl rfl (c_X6_fare (v1 := v1) (v2 := v2) (by omega) ht e1 e2 (show 0 ≤ v1 ∧ v1 ≤ 999 by omega) ?_)
    show Aj γ mX6_figure d 0 0 Post 83 [(0, vA a), (1, vI q)] [vI (farF v2 v1)] (mk h τ)
    exact a_iret dX6_figure_83 rfl (k8 c1_1)
set_option maxHeartbeats 8000000 in
theorem c_X6_begin {γ : GT} {d : Nat} {a : Nat} {k f g : Int} {h : Nat → Nat → Int} {τ : List AC} {Post : Option AV → List AC → Prop} (hd : 2 ≤ d) (ht : isTr a) {f1 : Nat → Int} (r1 : h (a + 1) = f1) (kQ : Post none (mk (up2 (upR (up2 (up2 (up2 (up2 (up2 h a 0 k) a 1 f) a 2 g) a 5 0) a 6 (-1000000005)) (a + 1) (fillR 0 4 f1)) (a + 1) 0 100) τ)) : Cj γ mX6_begin d 0 0 [vA a, vI k, vI f, vI g] (mk h τ) Post := by
  refine c_of (by decide) (Nat.le_of_ble_eq_true rfl) ?_
  show Aj γ mX6_begin d 0 0 Post 0 [(0, vA a), (1, vI k), (2, vI f), (3, vI g)] [] (mk h τ)
  refine a_aload_n (j := 0) dX6_begin_0 rfl rfl (Nat.le_of_ble_eq_true rfl) ?_
  refine a_iload_n (j := 1) dX6_begin_1 rfl rfl ?_
  refine b_put (a := a) (v := vI k) dX6_begin_2 pwX6_20 (fun h => nomatch h) (by have := ht.1; omega) ht.2.1 (by decide) (tr_s ht (by decide)) rfl (fit_int _) ?_
  show Aj γ mX6_begin d 0 0 Post 5 [(0, vA a), (1, vI k), (2, vI f), (3, vI g)] [] (mk (up2 h a 0 k) τ)
  refine a_aload_n (j := 0) dX6_begin_5 rfl rfl (Nat.le_of_ble_eq_true rfl) ?_
  refine a_iload_n (j := 2) dX6_begin_6 rfl rfl ?_
  refine b_put (a := a) (v := vI f) dX6_begin_7 pwX6_23 (fun h => nomatch h) (by have := ht.1; omega) ht.2.1 (by decide) (tr_s ht (by decide)) rfl (fit_int _) ?_
  show Aj γ mX6_begin d 0 0 Post 10 [(0, vA a), (1, vI k), (2, vI f), (3, vI g)] [] (mk (up2 (up2 h a 0 k) a 1 f) τ)
  refine a_aload_n (j := 0) dX6_begin_10 rfl rfl (Nat.le_of_ble_eq_true rfl) ?_
  refine a_iload_n (j := 3) dX6_begin_11 rfl rfl ?_
  refine b_put (a := a) (v := vI g) dX6_begin_12 pwX6_26 (fun h => nomatch h) (by have := ht.1; omega) ht.2.1 (by decide) (tr_s ht (by decide)) rfl (fit_int _) ?_
  show Aj γ mX6_begin d 0 0 Post 15 [(0, vA a), (1, vI k), (2, vI f), (3, vI g)] [] (mk (up2 (up2 (up2 h a 0 k) a 1 f) a 2 g) τ)
  refine a_aload_n (j := 0) dX6_begin_15 rfl rfl (Nat.le_of_ble_eq_true rfl) ?_
  refine a_iconst dX6_begin_16 ⟨by decide, by decide⟩ ?_
  refine b_put (a := a) (v := vI 0) dX6_begin_17 pwX6_29 (fun h => nomatch h) (by have := ht.1; omega) ht.2.1 (by decide) (tr_s ht (by decide)) rfl (fit_int _) ?_
  show Aj γ mX6_begin d 0 0 Post 20 [(0, vA a), (1, vI k), (2, vI f), (3, vI g)] [] (mk (up2 (up2 (up2 (up2 h a 0 k) a 1 f) a 2 g) a 5 0) τ)
  refine a_aload_n (j := 0) dX6_begin_20 rfl rfl (Nat.le_of_ble_eq_true rfl) ?_
  refine a_ldc (z := (-1000000005)) dX6_begin_21 kwX6_9 ⟨by decide, by decide, by decide⟩ ?_
  refine b_put (a := a) (v := vI (-1000000005)) dX6_begin_23 pwX6_10 (fun h => nomatch h) (by have := ht.1; omega) ht.2.1 (by decide) (tr_s ht (by decide)) rfl (fit_int _) ?_
  show Aj γ mX6_begin d 0 0 Post 26 [(0, vA a), (1, vI k), (2, vI f), (3, vI g)] [] (mk (up2 (up2 (up2 (up2 (up2 h a 0 k) a 1 f) a 2 g) a 5 0) a 6 (-1000000005)) τ)
  refine a_aload_n (j := 0) dX6_begin_26 rfl rfl (Nat.le_of_ble_eq_true rfl) ?_
  refine b_getp (a := a) (p := (a + 1)) dX6_begin_27 fwX6_16 (by have := ht.1; omega) ht.2.1 (by decide) (tr_p ht) rfl ?_
  refine a_iconst dX6_begin_30 ⟨by decide, by decide⟩ ?_
  refine a_callS (d' := d - 1) (mc' := 0) (ms' := 0) (mc1 := 0) (ms1 := 0) (st := []) [vA (a + 1), vI 0] dX6_begin_31 mwJ7_fill_53178 lkX6_32 rfl (Nat.le_of_ble_eq_true rfl) (by omega) rfl rfl (c_fill (f := f1) (by omega) ht.1 ht.2.2.1 (fun _ => (tr_c ht)) (by decide) ((up2_row (by omega)).trans ((up2_row (by omega)).trans ((up2_row (by omega)).trans ((up2_row (by omega)).trans ((up2_row (by omega)).trans r1))))) ?_)
  show Aj γ mX6_begin d 0 0 Post 34 [(0, vA a), (1, vI k), (2, vI f), (3, vI g)] [] (mk (upR (up2 (up2 (up2 (up2 (up2 h a 0 k) a 1 f) a 2 g) a 5 0) a 6 (-1000000005)) (a + 1) (fillR 0 4 f1)) τ)
  refine a_aload_n (j := 0) dX6_begin_34 rfl rfl (Nat.le_of_ble_eq_true rfl) ?_
  refine b_getp (a := a) (p := (a + 1)) dX6_begin_35 fwX6_16 (by have := ht.1; omega) ht.2.1 (by decide) (tr_p ht) rfl ?_
  refine a_iconst dX6_begin_38 ⟨by decide, by decide⟩ ?_
  refine a_bipush dX6_begin_39 ⟨by decide, by decide, by decide⟩ ?_
  refine b_iastore (a := (a + 1)) 0 dX6_begin_41 ht.1 ht.2.2.1 rfl (by decide) (tr_c ht) ?_
  exact a_vret dX6_begin_42 rfl kQ
set_option maxHeartbeats 8000000 in
theorem c_X6_takeFrom {γ : GT} {d : Nat} {a b : Nat} {h : Nat → Nat → Int} {τ : List AC} {Post : Option AV → List AC → Prop} (hd : 2 ≤ d) (ht : isTr a) (hb : isTr b) (hab : a ≠ b ∧ a ≠ b + 1 ∧ b ≠ a + 1) {v1 : Int} (e1 : h b 0 = v1) {v2 : Int} (e2 : h b 1 = v2) {v3 : Int} (e3 : h b 2 = v3) {v4 : Int} (e4 : h b 3 = v4) {v5 : Int} (e5 : h b 4 = v5) {v6 : Int} (e6 : h b 5 = v6) {v7 : Int} (e7 : h b 6 = v7) {f8 : Nat → Int} (r8 : h (b + 1) = f8) {f9 : Nat → Int} (r9 : h (a + 1) = f9) (kQ : Post none (mk (upR (up2 (up2 (up2 (up2 (up2 (up2 (up2 h a 0 v1) a 1 v2) a 2 v3) a 3 v4) a 4 v5) a 5 v6) a 6 v7) (a + 1) (cpy f8 f9 0 0 4)) τ)) : Cj γ mX6_takeFrom d 0 0 [vA a, vA b] (mk h τ) Post := by
  refine c_of (by decide) (Nat.le_of_ble_eq_true rfl) ?_
  show Aj γ mX6_takeFrom d 0 0 Post 0 [(0, vA a), (1, vA b)] [] (mk h τ)
  refine a_aload_n (j := 0) dX6_takeFrom_0 rfl rfl (Nat.le_of_ble_eq_true rfl) ?_
  refine a_aload_n (j := 1) dX6_takeFrom_1 rfl rfl (Nat.le_of_ble_eq_true rfl) ?_
  refine b_get (a := b) (z := v1) (t := 0) dX6_takeFrom_2 fwX6_20 (by have := hb.1; omega) hb.2.1 (by decide) (tr_s hb (by decide)) rfl e1 ?_
  refine b_put (a := a) (v := vI v1) dX6_takeFrom_5 pwX6_20 (fun h => nomatch h) (by have := ht.1; omega) ht.2.1 (by decide) (tr_s ht (by decide)) rfl (fit_int _) ?_
  show Aj γ mX6_takeFrom d 0 0 Post 8 [(0, vA a), (1, vA b)] [] (mk (up2 h a 0 v1) τ)
  refine a_aload_n (j := 0) dX6_takeFrom_8 rfl rfl (Nat.le_of_ble_eq_true rfl) ?_
  refine a_aload_n (j := 1) dX6_takeFrom_9 rfl rfl (Nat.le_of_ble_eq_true rfl) ?_
  refine b_get (a := b) (z := v2) (t := 0) dX6_takeFrom_10 fwX6_23 (by have := hb.1; omega) hb.2.1 (by decide) (tr_s hb (by decide)) rfl ((up2_ne (by omega)).trans e2) ?_
  refine b_put (a := a) (v := vI v2) dX6_takeFrom_13 pwX6_23 (fun h => nomatch h) (by have := ht.1; omega) ht.2.1 (by decide) (tr_s ht (by decide)) rfl (fit_int _) ?_
  show Aj γ mX6_takeFrom d 0 0 Post 16 [(0, vA a), (1, vA b)] [] (mk (up2 (up2 h a 0 v1) a 1 v2) τ)
  refine a_aload_n (j := 0) dX6_takeFrom_16 rfl rfl (Nat.le_of_ble_eq_true rfl) ?_
  refine a_aload_n (j := 1) dX6_takeFrom_17 rfl rfl (Nat.le_of_ble_eq_true rfl) ?_
  refine b_get (a := b) (z := v3) (t := 0) dX6_takeFrom_18 fwX6_26 (by have := hb.1; omega) hb.2.1 (by decide) (tr_s hb (by decide)) rfl ((up2_ne (by omega)).trans ((up2_ne (by omega)).trans e3)) ?_
  refine b_put (a := a) (v := vI v3) dX6_takeFrom_21 pwX6_26 (fun h => nomatch h) (by have := ht.1; omega) ht.2.1 (by decide) (tr_s ht (by decide)) rfl (fit_int _) ?_
  show Aj γ mX6_takeFrom d 0 0 Post 24 [(0, vA a), (1, vA b)] [] (mk (up2 (up2 (up2 h a 0 v1) a 1 v2) a 2 v3) τ)
  refine a_aload_n (j := 0) dX6_takeFrom_24 rfl rfl (Nat.le_of_ble_eq_true rfl) ?_
  refine a_aload_n (j := 1) dX6_takeFrom_25 rfl rfl (Nat.le_of_ble_eq_true rfl) ?_
  refine b_get (a := b) (z := v4) (t := 0) dX6_takeFrom_26 fwX6_38 (by have := hb.1; omega) hb.2.1 (by decide) (tr_s hb (by decide)) rfl ((up2_ne (by omega)).trans ((up2_ne (by omega)).trans ((up2_ne (by omega)).trans e4))) ?_
  refine b_put (a := a) (v := vI v4) dX6_takeFrom_29 pwX6_38 (fun h => nomatch h) (by have := ht.1; omega) ht.2.1 (by decide) (tr_s ht (by decide)) rfl (fit_int _) ?_
  show Aj γ mX6_takeFrom d 0 0 Post 32 [(0, vA a), (1, vA b)] [] (mk (up2 (up2 (up2 (up2 h a 0 v1) a 1 v2) a 2 v3) a 3 v4) τ)
  refine a_aload_n (j := 0) dX6_takeFrom_32 rfl rfl (Nat.le_of_ble_eq_true rfl) ?_
  refine a_aload_n (j := 1) dX6_takeFrom_33 rfl rfl (Nat.le_of_ble_eq_true rfl) ?_
  refine b_get (a := b) (z := v5) (t := 0) dX6_takeFrom_34 fwX6_41 (by have := hb.1; omega) hb.2.1 (by decide) (tr_s hb (by decide)) rfl ((up2_ne (by omega)).trans ((up2_ne (by omega)).trans ((up2_ne (by omega)).trans ((up2_ne (by omega)).trans e5)))) ?_
  refine b_put (a := a) (v := vI v5) dX6_takeFrom_37 pwX6_41 (fun h => nomatch h) (by have := ht.1; omega) ht.2.1 (by decide) (tr_s ht (by decide)) rfl (fit_int _) ?_
  show Aj γ mX6_takeFrom d 0 0 Post 40 [(0, vA a), (1, vA b)] [] (mk (up2 (up2 (up2 (up2 (up2 h a 0 v1) a 1 v2) a 2 v3) a 3 v4) a 4 v5) τ)
  refine a_aload_n (j := 0) dX6_takeFrom_40 rfl rfl (Nat.le_of_ble_eq_true rfl) ?_
  refine a_aload_n (j := 1) dX6_takeFrom_41 rfl rfl (Nat.le_of_ble_eq_true rfl) ?_
  refine b_get (a := b) (z := v6) (t := 0) dX6_takeFrom_42 fwX6_29 (by have := hb.1; omega) hb.2.1 (by decide) (tr_s hb (by decide)) rfl ((up2_ne (by omega)).trans ((up2_ne (by omega)).trans ((up2_ne (by omega)).trans ((up2_ne (by omega)).trans ((up2_ne (by omega)).trans e6))))) ?_
  refine b_put (a := a) (v := vI v6) dX6_takeFrom_45 pwX6_29 (fun h => nomatch h) (by have := ht.1; omega) ht.2.1 (by decide) (tr_s ht (by decide)) rfl (fit_int _) ?_
  show Aj γ mX6_takeFrom d 0 0 Post 48 [(0, vA a), (1, vA b)] [] (mk (up2 (up2 (up2 (up2 (up2 (up2 h a 0 v1) a 1 v2) a 2 v3) a 3 v4) a 4 v5) a 5 v6) τ)
  refine a_aload_n (j := 0) dX6_takeFrom_48 rfl rfl (Nat.le_of_ble_eq_true rfl) ?_
  refine a_aload_n (j := 1) dX6_takeFrom_49 rfl rfl (Nat.le_of_ble_eq_true rfl) ?_
  refine b_get (a := b) (z := v7) (t := 0) dX6_takeFrom_50 fwX6_10 (by have := hb.1; omega) hb.2.1 (by decide) (tr_s hb (by decide)) rfl ((up2_ne (by omega)).trans ((up2_ne (by omega)).trans ((up2_ne (by omega)).trans ((up2_ne (by omega)).trans ((up2_ne (by omega)).trans ((up2_ne (by omega)).trans e7)))))) ?_
  refine b_put (a := a) (v := vI v7) dX6_takeFrom_53 pwX6_10 (fun h => nomatch h) (by have := ht.1; omega) ht.2.1 (by decide) (tr_s ht (by decide)) rfl (fit_int _) ?_
  show Aj γ mX6_takeFrom d 0 0 Post 56 [(0, vA a), (1, vA b)] [] (mk (up2 (up2 (up2 (up2 (up2 (up2 (up2 h a 0 v1) a 1 v2) a 2 v3) a 3 v4) a 4 v5) a 5 v6) a 6 v7) τ)
  refine a_aload_n (j := 1) dX6_takeFrom_56 rfl rfl (Nat.le_of_ble_eq_true rfl) ?_
  refine b_getp (a := b) (p := (b + 1)) dX6_takeFrom_57 fwX6_16 (by have := hb.1; omega) hb.2.1 (by decide) (tr_p hb) rfl ?_
  refine a_iconst dX6_takeFrom_60 ⟨by decide, by decide⟩ ?_
  refine a_aload_n (j := 0) dX6_takeFrom_61 rfl rfl (Nat.le_of_ble_eq_true rfl) ?_
  refine b_getp (a := a) (p := (a + 1)) dX6_takeFrom_62 fwX6_16 (by have := ht.1; omega) ht.2.1 (by decide) (tr_p ht) rfl ?_
  refine a_iconst dX6_takeFrom_65 ⟨by decide, by decide⟩ ?_
  refine a_iconst dX6_takeFrom_66 ⟨by decide, by decide⟩ ?_
  refine b_copyR (a := (b + 1)) (b := (a + 1)) (sp' := 0) (dp := 0) (n := 4) (f := f8) (g := f9) dX6_takeFrom_67 alX6_44 hb.1 ht.1 hb.2.2.1 ht.2.2.1 (fun _ => (tr_c hb)) (fun _ => (tr_c ht)) rfl rfl rfl (by decide) (by decide) (Nat.le_of_ble_eq_true rfl) (by omega) ((up2_row (by omega)).trans ((up2_row (by omega)).trans ((up2_row (by omega)).trans ((up2_row (by omega)).trans ((up2_row (by omega)).trans ((up2_row (by omega)).trans ((up2_row (by omega)).trans r8))))))) ((up2_row (by omega)).trans ((up2_row (by omega)).trans ((up2_row (by omega)).trans ((up2_row (by omega)).trans ((up2_row (by omega)).trans ((up2_row (by omega)).trans ((up2_row (by omega)).trans r9))))))) ?_
  show Aj γ mX6_takeFrom d 0 0 Post 70 [(0, vA a), (1, vA b)] [] (mk (upR (up2 (up2 (up2 (up2 (up2 (up2 (up2 h a 0 v1) a 1 v2) a 2 v3) a 3 v4) a 4 v5) a 5 v6) a 6 v7) (a + 1) (cpy f8 f9 0 0 4)) τ)
  exact a_vret dX6_takeFrom_70 rfl kQ
set_option maxHeartbeats 8000000 in
theorem c_X1_begin {γ : GT} {d : Nat} {a : Nat} {k n : Int} {h : Nat → Nat → Int} {τ : List AC} {Post : Option AV → List AC → Prop} (hd : 2 ≤ d) (ht : isSh a) {f1 : Nat → Int} (r1 : h (a + 1) = f1) (kQ : Post none (mk (upR (up2 (up2 h a 0 k) a 1 n) (a + 1) (fillR 0 24 f1)) τ)) : Cj γ mX1_begin d 0 0 [vA a, vI k, vI n] (mk h τ) Post := by
  refine c_of (by decide) (Nat.le_of_ble_eq_true rfl) ?_
  show Aj γ mX1_begin d 0 0 Post 0 [(0, vA a), (1, vI k), (2, vI n)] [] (mk h τ)
  refine a_aload_n (j := 0) dX1_begin_0 rfl rfl (Nat.le_of_ble_eq_true rfl) ?_
  refine a_iload_n (j := 1) dX1_begin_1 rfl rfl ?_
  refine b_put (a := a) (v := vI k) dX1_begin_2 pwX1_9 (fun h => nomatch h) (by have := ht.1; omega) ht.2.1 (by decide) (sh_s ht (by decide)) rfl (fit_int _) ?_
  show Aj γ mX1_begin d 0 0 Post 5 [(0, vA a), (1, vI k), (2, vI n)] [] (mk (up2 h a 0 k) τ)
  refine a_aload_n (j := 0) dX1_begin_5 rfl rfl (Nat.le_of_ble_eq_true rfl) ?_
  refine a_iload_n (j := 2) dX1_begin_6 rfl rfl ?_
  refine b_put (a := a) (v := vI n) dX1_begin_7 pwX1_19 (fun h => nomatch h) (by have := ht.1; omega) ht.2.1 (by decide) (sh_s ht (by decide)) rfl (fit_int _) ?_
  show Aj γ mX1_begin d 0 0 Post 10 [(0, vA a), (1, vI k), (2, vI n)] [] (mk (up2 (up2 h a 0 k) a 1 n) τ)
  refine a_aload_n (j := 0) dX1_begin_10 rfl rfl (Nat.le_of_ble_eq_true rfl) ?_
  refine b_getp (a := a) (p := (a + 1)) dX1_begin_11 fwX1_15 (by have := ht.1; omega) ht.2.1 (by decide) (sh_p ht) rfl ?_
  refine a_iconst dX1_begin_14 ⟨by decide, by decide⟩ ?_
  refine a_callS (d' := d - 1) (mc' := 0) (ms' := 0) (mc1 := 0) (ms1 := 0) (st := []) [vA (a + 1), vI 0] dX1_begin_15 mwJ7_fill_53178 lkX1_22 rfl (Nat.le_of_ble_eq_true rfl) (by omega) rfl rfl (c_fill (f := f1) (by omega) ht.1 ht.2.2.1 (fun _ => (sh_c ht)) (by decide) ((up2_row (by omega)).trans ((up2_row (by omega)).trans r1)) ?_)
  show Aj γ mX1_begin d 0 0 Post 18 [(0, vA a), (1, vI k), (2, vI n)] [] (mk (upR (up2 (up2 h a 0 k) a 1 n) (a + 1) (fillR 0 24 f1)) τ)
  exact a_vret dX1_begin_18 rfl kQ
set_option maxHeartbeats 8000000 in
theorem c_X1_takeFrom {γ : GT} {d : Nat} {a b : Nat} {h : Nat → Nat → Int} {τ : List AC} {Post : Option AV → List AC → Prop} (hd : 2 ≤ d) (ht : isSh a) (hb : isSh b) (hab : a ≠ b ∧ a ≠ b + 1 ∧ b ≠ a + 1) {v1 : Int} (e1 : h b 0 = v1) {v2 : Int} (e2 : h b 1 = v2) {f3 : Nat → Int} (r3 : h (b + 1) = f3) {f4 : Nat → Int} (r4 : h (a + 1) = f4) (kQ : Post none (mk (upR (up2 (up2 h a 0 v1) a 1 v2) (a + 1) (cpy f3 f4 0 0 24)) τ)) : Cj γ mX1_takeFrom d 0 0 [vA a, vA b] (mk h τ) Post := by
  refine c_of (by decide) (Nat.le_of_ble_eq_true rfl) ?_
  show Aj γ mX1_takeFrom d 0 0 Post 0 [(0, vA a), (1, vA b)] [] (mk h τ)
  refine a_aload_n (j := 0) dX1_takeFrom_0 rfl rfl (Nat.le_of_ble_eq_true rfl) ?_
  refine a_aload_n (j := 1) dX1_takeFrom_1 rfl rfl (Nat.le_of_ble_eq_true rfl) ?_
  refine b_get (a := b) (z := v1) (t := 0) dX1_takeFrom_2 fwX1_9 (by have := hb.1; omega) hb.2.1 (by decide) (sh_s hb (by decide)) rfl e1 ?_
  refine b_put (a := a) (v := vI v1) dX1_takeFrom_5 pwX1_9 (fun h => nomatch h) (by have := ht.1; omega) ht.2.1 (by decide) (sh_s ht (by decide)) rfl (fit_int _) ?_
  show Aj γ mX1_takeFrom d 0 0 Post 8 [(0, vA a), (1, vA b)] [] (mk (up2 h a 0 v1) τ)
  refine a_aload_n (j := 0) dX1_takeFrom_8 rfl rfl (Nat.le_of_ble_eq_true rfl) ?_
  refine a_aload_n (j := 1) dX1_takeFrom_9 rfl rfl (Nat.le_of_ble_eq_true rfl) ?_
  refine b_get (a := b) (z := v2) (t := 0) dX1_takeFrom_10 fwX1_19 (by have := hb.1; omega) hb.2.1 (by decide) (sh_s hb (by decide)) rfl ((up2_ne (by omega)).trans e2) ?_
  refine b_put (a := a) (v := vI v2) dX1_takeFrom_13 pwX1_19 (fun h => nomatch h) (by have := ht.1; omega) ht.2.1 (by decide) (sh_s ht (by decide)) rfl (fit_int _) ?_
  show Aj γ mX1_takeFrom d 0 0 Post 16 [(0, vA a), (1, vA b)] [] (mk (up2 (up2 h a 0 v1) a 1 v2) τ)
  refine a_aload_n (j := 1) dX1_takeFrom_16 rfl rfl (Nat.le_of_ble_eq_true rfl) ?_
  refine b_getp (a := b) (p := (b + 1)) dX1_takeFrom_17 fwX1_15 (by have := hb.1; omega) hb.2.1 (by decide) (sh_p hb) rfl ?_
  refine a_iconst dX1_takeFrom_20 ⟨by decide, by decide⟩ ?_
  refine a_aload_n (j := 0) dX1_takeFrom_21 rfl rfl (Nat.le_of_ble_eq_true rfl) ?_
  refine b_getp (a := a) (p := (a + 1)) dX1_takeFrom_22 fwX1_15 (by have := ht.1; omega) ht.2.1 (by decide) (sh_p ht) rfl ?_
  refine a_iconst dX1_takeFrom_25 ⟨by decide, by decide⟩ ?_
  refine a_bipush dX1_takeFrom_26 ⟨by decide, by decide, by decide⟩ ?_
  refine b_copyR (a := (b + 1)) (b := (a + 1)) (sp' := 0) (dp := 0) (n := 24) (f := f3) (g := f4) dX1_takeFrom_28 alX1_28 hb.1 ht.1 hb.2.2.1 ht.2.2.1 (fun _ => (sh_c hb)) (fun _ => (sh_c ht)) rfl rfl rfl (by decide) (by decide) (Nat.le_of_ble_eq_true rfl) (by omega) ((up2_row (by omega)).trans ((up2_row (by omega)).trans r3)) ((up2_row (by omega)).trans ((up2_row (by omega)).trans r4)) ?_
  show Aj γ mX1_takeFrom d 0 0 Post 31 [(0, vA a), (1, vA b)] [] (mk (upR (up2 (up2 h a 0 v1) a 1 v2) (a + 1) (cpy f3 f4 0 0 24)) τ)
  exact a_vret dX1_takeFrom_31 rfl kQ
set_option maxHeartbeats 8000000 in
theorem c_X1_hasPlace {γ : GT} {d : Nat} {a : Nat} {p : Int} {h : Nat → Nat → Int} {τ : List AC} {Post : Option AV → List AC → Prop} (hd : 1 ≤ d) (ht : isSh a) {v1 : Int} (e1 : h a 1 = v1) (hr : 0 ≤ v1 ∧ v1 ≤ 24) (kT : 0 ≤ p ∧ p < v1 → Post (some (vI 1)) (mk h τ)) (kF : ¬ (0 ≤ p ∧ p < v1) → Post (some (vI 0)) (mk h τ)) : Cj γ mX1_hasPlace d 0 0 [vA a, vI p] (mk h τ) Post := by
  refine c_of (by decide) (Nat.le_of_ble_eq_true rfl) ?_
  show Aj γ mX1_hasPlace d 0 0 Post 0 [(0, vA a), (1, vI p)] [] (mk h τ)
  refine a_iload_n (j := 1) dX1_hasPlace_0 rfl rfl ?_
  refine a_iconst dX1_hasPlace_1 ⟨by decide, by decide⟩ ?_
  refine a_aload_n (j := 0) dX1_hasPlace_2 rfl rfl (Nat.le_of_ble_eq_true rfl) ?_
  refine b_get (a := a) (z := v1) (t := 0) dX1_hasPlace_3 fwX1_19 (by have := ht.1; omega) ht.2.1 (by decide) (sh_s ht (by decide)) rfl e1 ?_
  refine a_iconst dX1_hasPlace_6 ⟨by decide, by decide⟩ ?_
  refine a_isub (z := (v1 - 1)) dX1_hasPlace_7 (w_ok (by omega) (by omega)) ?_
  refine a_callS (d' := d - 1) (mc' := 0) (ms' := 0) (mc1 := 0) (ms1 := 0) (st := []) [vI p, vI 0, vI (v1 - 1)] dX1_hasPlace_8 mwX8_within lkX1_34 rfl (Nat.le_of_ble_eq_true rfl) (by omega) rfl rfl (c_X8_within  (by omega)    (fun t8_1 => ?_) (fun t8_1 => ?_))
  · have t8_1 : 0 ≤ p ∧ p ≤ (v1 - 1) := t8_1
    show Aj γ mX1_hasPlace d 0 0 Post 11 [(0, vA a), (1, vI p)] [vI 1] (mk h τ)
    exact a_zret dX1_hasPlace_11 rfl (by first | exact Or.inl rfl | exact Or.inr rfl | omega) (kT (by omega))
  · have t8_1 : ¬ (0 ≤ p ∧ p ≤ (v1 - 1)) := t8_1
    show Aj γ mX1_hasPlace d 0 0 Post 11 [(0, vA a), (1, vI p)] [vI 0] (mk h τ)
    exact a_zret dX1_hasPlace_11 rfl (by first | exact Or.inl rfl | exact Or.inr rfl | omega) (kF (by omega))
set_option maxHeartbeats 8000000 in
theorem c_X1_hasRun {γ : GT} {d : Nat} {a : Nat} {p m : Int} {h : Nat → Nat → Int} {τ : List AC} {Post : Option AV → List AC → Prop} (hd : 1 ≤ d) (ht : isSh a) {v1 : Int} (e1 : h a 1 = v1) (hr : 0 ≤ v1 ∧ v1 ≤ 24) (kT : (0 ≤ p ∧ p ≤ v1) ∧ (0 ≤ m ∧ m ≤ v1 - p) → Post (some (vI 1)) (mk h τ)) (kF : ¬ ((0 ≤ p ∧ p ≤ v1) ∧ (0 ≤ m ∧ m ≤ v1 - p)) → Post (some (vI 0)) (mk h τ)) : Cj γ mX1_hasRun d 0 0 [vA a, vI p, vI m] (mk h τ) Post := by
  refine c_of (by decide) (Nat.le_of_ble_eq_true rfl) ?_
  show Aj γ mX1_hasRun d 0 0 Post 0 [(0, vA a), (1, vI p), (2, vI m)] [] (mk h τ)
  refine a_iload_n (j := 1) dX1_hasRun_0 rfl rfl ?_
  refine a_iconst dX1_hasRun_1 ⟨by decide, by decide⟩ ?_
  refine a_aload_n (j := 0) dX1_hasRun_2 rfl rfl (Nat.le_of_ble_eq_true rfl) ?_
  refine b_get (a := a) (z := v1) (t := 0) dX1_hasRun_3 fwX1_19 (by have := ht.1; omega) ht.2.1 (by decide) (sh_s ht (by decide)) rfl e1 ?_
  refine a_callS (d' := d - 1) (mc' := 0) (ms' := 0) (mc1 := 0) (ms1 := 0) (st := []) [vI p, vI 0, vI v1] dX1_hasRun_6 mwX8_within lkX1_34 rfl (Nat.le_of_ble_eq_true rfl) (by omega) rfl rfl (c_X8_within  (by omega)    (fun t6_1 => ?_) (fun t6_1 => ?_))
  · have t6_1 : 0 ≤ p ∧ p ≤ v1 := t6_1
    show Aj γ mX1_hasRun d 0 0 Post 9 [(0, vA a), (1, vI p), (2, vI m)] [vI 1] (mk h τ)
    refine a_if_eq (tgt := 30) dX1_hasRun_9 (by decide) (fun c => absurd c (by decide)) (fun _ => ?_)
    refine a_iload_n (j := 2) dX1_hasRun_12 rfl rfl ?_
    refine a_iconst dX1_hasRun_13 ⟨by decide, by decide⟩ ?_
    refine a_aload_n (j := 0) dX1_hasRun_14 rfl rfl (Nat.le_of_ble_eq_true rfl) ?_
    refine b_get (a := a) (z := v1) (t := 0) dX1_hasRun_15 fwX1_19 (by have := ht.1; omega) ht.2.1 (by decide) (sh_s ht (by decide)) rfl e1 ?_
    refine a_iload_n (j := 1) dX1_hasRun_18 rfl rfl ?_
    refine a_isub (z := (v1 - p)) dX1_hasRun_19 (w_ok (by omega) (by omega)) ?_
    refine a_callS (d' := d - 1) (mc' := 0) (ms' := 0) (mc1 := 0) (ms1 := 0) (st := []) [vI m, vI 0, vI (v1 - p)] dX1_hasRun_20 mwX8_within lkX1_34 rfl (Nat.le_of_ble_eq_true rfl) (by omega) rfl rfl (c_X8_within  (by omega)    (fun t20_2 => ?_) (fun t20_2 => ?_))
    · have t20_2 : 0 ≤ m ∧ m ≤ (v1 - p) := t20_2
      show Aj γ mX1_hasRun d 0 0 Post 23 [(0, vA a), (1, vI p), (2, vI m)] [vI 1] (mk h τ)
      refine a_if_eq (tgt := 30) dX1_hasRun_23 (by decide) (fun c => absurd c (by decide)) (fun _ => ?_)
      refine a_iconst dX1_hasRun_26 ⟨by decide, by decide⟩ ?_
      refine a_goto (tgt := 31) dX1_hasRun_27 (by decide) ?_
      exact a_zret dX1_hasRun_31 rfl (by first | exact Or.inl rfl | exact Or.inr rfl | omega) (kT (by omega))
    · have t20_2 : ¬ (0 ≤ m ∧ m ≤ (v1 - p)) := t20_2
      show Aj γ mX1_hasRun d 0 0 Post 23 [(0, vA a), (1, vI p), (2, vI m)] [vI 0] (mk h τ)
      refine a_if_eq (tgt := 30) dX1_hasRun_23 (by decide) (fun _ => ?_) (fun c => absurd c (by decide))
      refine a_iconst dX1_hasRun_30 ⟨by decide, by decide⟩ ?_
      exact a_zret dX1_hasRun_31 rfl (by first | exact Or.inl rfl | exact Or.inr rfl | omega) (kF (by omega))
  · have t6_1 : ¬ (0 ≤ p ∧ p ≤ v1) := t6_1
    show Aj γ mX1_hasRun d 0 0 Post 9 [(0, vA a), (1, vI p), (2, vI m)] [vI 0] (mk h τ)
    refine a_if_eq (tgt := 30) dX1_hasRun_9 (by decide) (fun _ => ?_) (fun c => absurd c (by decide))
    refine a_iconst dX1_hasRun_30 ⟨by decide, by decide⟩ ?_
    exact a_zret dX1_hasRun_31 rfl (by first | exact Or.inl rfl | exact Or.inr rfl | omega) (kF (by omega))
set_option maxHeartbeats 8000000 in
theorem c_X8_stampAnew {γ : GT} {d : Nat}  {h : Nat → Nat → Int} {τ : List AC} {Post : Option AV → List AC → Prop} (hd : 0 ≤ d) {v1 : Int} (e1 : h 0 3 = v1) (hs : 0 ≤ v1 ∧ v1 ≤ 1000) (kQ : Post none (mk (up2 (up2 h 0 3 (v1 + 1)) 1 0 (v1 + 1)) τ)) : Cj γ mX8_stampAnew d 0 0 [vA 0] (mk h τ) Post := by
  refine c_of (by decide) (Nat.le_of_ble_eq_true rfl) ?_
  show Aj γ mX8_stampAnew d 0 0 Post 0 [(0, vA 0)] [] (mk h τ)
  refine a_aload_n (j := 0) dX8_stampAnew_0 rfl rfl (Nat.le_of_ble_eq_true rfl) ?_
  refine a_dup dX8_stampAnew_1 (fun h => nomatch h) ?_
  refine b_get (a := 0) (z := v1) (t := 0) dX8_stampAnew_2 fwX8_345 (by decide) rfl (by decide) rfl rfl e1 ?_
  refine a_iconst dX8_stampAnew_5 ⟨by decide, by decide⟩ ?_
  refine a_iadd (z := (v1 + 1)) dX8_stampAnew_6 (w_ok (by omega) (by omega)) ?_
  refine b_put (a := 0) (v := vI (v1 + 1)) dX8_stampAnew_7 pwX8_345 (fun h => nomatch h) (by decide) rfl (by decide) rfl rfl (fit_int _) ?_
  show Aj γ mX8_stampAnew d 0 0 Post 10 [(0, vA 0)] [] (mk (up2 h 0 3 (v1 + 1)) τ)
  refine a_aload_n (j := 0) dX8_stampAnew_10 rfl rfl (Nat.le_of_ble_eq_true rfl) ?_
  refine b_getp (a := 0) (p := 1) dX8_stampAnew_11 fwX8_14 (by decide) rfl (by decide) rfl rfl ?_
  refine a_aload_n (j := 0) dX8_stampAnew_14 rfl rfl (Nat.le_of_ble_eq_true rfl) ?_
  refine b_get (a := 0) (z := (v1 + 1)) (t := 0) dX8_stampAnew_15 fwX8_345 (by decide) rfl (by decide) rfl rfl up2_at ?_
  refine b_put (a := 1) (v := vI (v1 + 1)) dX8_stampAnew_18 pwX8_348 (fun h => nomatch h) (by decide) rfl (by decide) rfl rfl (fit_int _) ?_
  show Aj γ mX8_stampAnew d 0 0 Post 21 [(0, vA 0)] [] (mk (up2 (up2 h 0 3 (v1 + 1)) 1 0 (v1 + 1)) τ)
  exact a_vret dX8_stampAnew_21 rfl kQ
