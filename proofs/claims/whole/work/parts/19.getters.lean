set_option maxHeartbeats 8000000 in
theorem c_X5_lastMinute {γ : GT} {d : Nat} {t : Int} {h : Nat → Nat → Int} {τ : List AC} {Post : Option AV → List AC → Prop} (hd : 0 ≤ d) {v1 : Int} (e1 : h 69 (Int.toNat t) = v1) {v2 : Int} (e2 : h 70 (Int.toNat t) = v2) (ht : 0 ≤ t ∧ t ≤ 11) (h1 : 0 ≤ v1 ∧ v1 ≤ 1559) (h2 : 0 ≤ v2 ∧ v2 ≤ 30) (kQ : Post (some (vI (v1 + v2))) (mk h τ)) : Cj γ mX5_lastMinute d 0 0 [vA 63, vI t] (mk h τ) Post := by
  refine c_of (by decide) (Nat.le_of_ble_eq_true rfl) ?_
  show Aj γ mX5_lastMinute d 0 0 Post 0 [(0, vA 63), (1, vI t)] [] (mk h τ)
  refine a_aload_n (j := 0) dX5_lastMinute_0 rfl rfl (Nat.le_of_ble_eq_true rfl) ?_
  refine b_getp (a := 63) (p := 69) dX5_lastMinute_1 fwX5_31 (by decide) rfl (by decide) rfl rfl ?_
  refine a_iload_n (j := 1) dX5_lastMinute_4 rfl rfl ?_
  refine b_iaload (a := 69) (z := v1) (Int.toNat t) dX5_lastMinute_5 (by decide) rfl (by omega) (by omega) (sp_nil rfl _) e1 (fun r5_1 => ?_)
  refine a_aload_n (j := 0) dX5_lastMinute_6 rfl rfl (Nat.le_of_ble_eq_true rfl) ?_
  refine b_getp (a := 63) (p := 70) dX5_lastMinute_7 fwX5_34 (by decide) rfl (by decide) rfl rfl ?_
  refine a_iload_n (j := 1) dX5_lastMinute_10 rfl rfl ?_
  refine b_iaload (a := 70) (z := v2) (Int.toNat t) dX5_lastMinute_11 (by decide) rfl (by omega) (by omega) (sp_nil rfl _) e2 (fun r11_2 => ?_)
  refine a_iadd (z := (v1 + v2)) dX5_lastMinute_12 (w_ok (by omega) (by omega)) ?_
  exact a_iret dX5_lastMinute_13 rfl (post_v kQ (by rfl))
set_option maxHeartbeats 8000000 in
theorem c_X5_there {γ : GT} {d : Nat} {t s : Int} {h : Nat → Nat → Int} {τ : List AC} {Post : Option AV → List AC → Prop} (hd : 0 ≤ d) {v1 : Int} (e1 : h 72 (Int.toNat ((t * 4) + s)) = v1) {v2 : Int} (e2 : h 67 (Int.toNat t) = v2) (ht : 0 ≤ t ∧ t ≤ 11) (hs : 0 ≤ s ∧ s ≤ 3) (h1 : 0 ≤ v1 ∧ v1 ≤ 3000) (h2 : 1 ≤ v2 ∧ v2 ≤ 600) (kQ : Post (some (vI (v1 + v2))) (mk h τ)) : Cj γ mX5_there d 0 0 [vA 63, vI t, vI s] (mk h τ) Post := by
  refine c_of (by decide) (Nat.le_of_ble_eq_true rfl) ?_
  show Aj γ mX5_there d 0 0 Post 0 [(0, vA 63), (1, vI t), (2, vI s)] [] (mk h τ)
  refine a_aload_n (j := 0) dX5_there_0 rfl rfl (Nat.le_of_ble_eq_true rfl) ?_
  refine b_getp (a := 63) (p := 72) dX5_there_1 fwX5_40 (by decide) rfl (by decide) rfl rfl ?_
  refine a_iload_n (j := 1) dX5_there_4 rfl rfl ?_
  refine a_iconst dX5_there_5 ⟨by decide, by decide⟩ ?_
  refine a_imul (z := (t * 4)) dX5_there_6 (w_ok (by omega) (by omega)) ?_
  refine a_iload_n (j := 2) dX5_there_7 rfl rfl ?_
  refine a_iadd (z := ((t * 4) + s)) dX5_there_8 (w_ok (by omega) (by omega)) ?_
  refine b_iaload (a := 72) (z := v1) (Int.toNat ((t * 4) + s)) dX5_there_9 (by decide) rfl (by omega) (by omega) (sp_nil rfl _) e1 (fun r9_1 => ?_)
  refine a_aload_n (j := 0) dX5_there_10 rfl rfl (Nat.le_of_ble_eq_true rfl) ?_
  refine b_getp (a := 63) (p := 67) dX5_there_11 fwX5_25 (by decide) rfl (by decide) rfl rfl ?_
  refine a_iload_n (j := 1) dX5_there_14 rfl rfl ?_
  refine b_iaload (a := 67) (z := v2) (Int.toNat t) dX5_there_15 (by decide) rfl (by omega) (by omega) (sp_nil rfl _) e2 (fun r15_2 => ?_)
  refine a_iadd (z := (v1 + v2)) dX5_there_16 (w_ok (by omega) (by omega)) ?_
  exact a_iret dX5_there_17 rfl (post_v kQ (by rfl))
set_option maxHeartbeats 8000000 in
theorem c_X5_joins {γ : GT} {d : Nat} {a b : Int} {h : Nat → Nat → Int} {τ : List AC} {Post : Option AV → List AC → Prop} (hd : 0 ≤ d) {v1 : Int} (e1 : h 65 (Int.toNat b) = v1) {v2 : Int} (e2 : h 66 (Int.toNat a) = v2) (ha : 0 ≤ a ∧ a ≤ 11) (hb : 0 ≤ b ∧ b ≤ 11) (kT : v1 = v2 → Post (some (vI 1)) (mk h τ)) (kF : ¬ (v1 = v2) → Post (some (vI 0)) (mk h τ)) : Cj γ mX5_joins d 0 0 [vA 63, vI a, vI b] (mk h τ) Post := by
  refine c_of (by decide) (Nat.le_of_ble_eq_true rfl) ?_
  show Aj γ mX5_joins d 0 0 Post 0 [(0, vA 63), (1, vI a), (2, vI b)] [] (mk h τ)
  refine a_aload_n (j := 0) dX5_joins_0 rfl rfl (Nat.le_of_ble_eq_true rfl) ?_
  refine b_getp (a := 63) (p := 65) dX5_joins_1 fwX5_19 (by decide) rfl (by decide) rfl rfl ?_
  refine a_iload_n (j := 2) dX5_joins_4 rfl rfl ?_
  refine b_iaload (a := 65) (z := v1) (Int.toNat b) dX5_joins_5 (by decide) rfl (by omega) (by omega) (sp_nil rfl _) e1 (fun r5_1 => ?_)
  refine a_aload_n (j := 0) dX5_joins_6 rfl rfl (Nat.le_of_ble_eq_true rfl) ?_
  refine b_getp (a := 63) (p := 66) dX5_joins_7 fwX5_22 (by decide) rfl (by decide) rfl rfl ?_
  refine a_iload_n (j := 1) dX5_joins_10 rfl rfl ?_
  refine b_iaload (a := 66) (z := v2) (Int.toNat a) dX5_joins_11 (by decide) rfl (by omega) (by omega) (sp_nil rfl _) e2 (fun r11_2 => ?_)
  refine a_icmp_ne (tgt := 19) dX5_joins_12 (by decide) (fun c12_3 => ?_) (fun c12_3 => ?_)
  · refine a_iconst dX5_joins_19 ⟨by decide, by decide⟩ ?_
    exact a_zret dX5_joins_20 rfl (by first | exact Or.inl rfl | exact Or.inr rfl | omega) (kF (by omega))
  · refine a_iconst dX5_joins_15 ⟨by decide, by decide⟩ ?_
    refine a_goto (tgt := 20) dX5_joins_16 (by decide) ?_
    exact a_zret dX5_joins_20 rfl (by first | exact Or.inl rfl | exact Or.inr rfl | omega) (kT (by omega))
/-- when one is there, ready for the next one: later, minutes, takes, whether it is the goal, the walk -/
def arrF (la m tk to goal wk : Int) : Int := (if la < m then m else la) + tk + (if to = goal then 0 else wk)
set_option maxHeartbeats 8000000 in
theorem c_X5_arrival {γ : GT} {d : Nat} {t s m : Int} {h : Nat → Nat → Int} {τ : List AC} {Post : Option AV → List AC → Prop} (hd : 1 ≤ d) {v1 : Int} (e1 : h 72 (Int.toNat ((t * 4) + s)) = v1) {v2 : Int} (e2 : h 67 (Int.toNat t) = v2) {v3 : Int} (e3 : h 66 (Int.toNat t) = v3) {v4 : Int} (e4 : h 64 (Int.toNat v3) = v4) {v5 : Int} (e5 : h 63 1 = v5) (ht : 0 ≤ t ∧ t ≤ 11) (hs : 0 ≤ s ∧ s ≤ 3) (h1 : 0 ≤ v1 ∧ v1 ≤ 3000) (h2 : 1 ≤ v2 ∧ v2 ≤ 600) (h3 : 0 ≤ v3 ∧ v3 ≤ 5) (h4 : 0 ≤ v4 ∧ v4 ≤ 99) (h5 : 0 ≤ m ∧ m ≤ 5000) (kQ : Post (some (vI (arrF v1 m v2 v3 v5 v4))) (mk h τ)) : Cj γ mX5_arrival d 0 0 [vA 63, vI t, vI s, vI m] (mk h τ) Post := by
  refine c_of (by decide) (Nat.le_of_ble_eq_true rfl) ?_
  show Aj γ mX5_arrival d 0 0 Post 0 [(0, vA 63), (1, vI t), (2, vI s), (3, vI m)] [] (mk h τ)
  refine a_aload_n (j := 0) dX5_arrival_0 rfl rfl (Nat.le_of_ble_eq_true rfl) ?_
  refine b_getp (a := 63) (p := 72) dX5_arrival_1 fwX5_40 (by decide) rfl (by decide) rfl rfl ?_
  refine a_iload_n (j := 1) dX5_arrival_4 rfl rfl ?_
  refine a_iconst dX5_arrival_5 ⟨by decide, by decide⟩ ?_
  refine a_imul (z := (t * 4)) dX5_arrival_6 (w_ok (by omega) (by omega)) ?_
  refine a_iload_n (j := 2) dX5_arrival_7 rfl rfl ?_
  refine a_iadd (z := ((t * 4) + s)) dX5_arrival_8 (w_ok (by omega) (by omega)) ?_
  refine b_iaload (a := 72) (z := v1) (Int.toNat ((t * 4) + s)) dX5_arrival_9 (by decide) rfl (by omega) (by omega) (sp_nil rfl _) e1 (fun r9_1 => ?_)
  refine a_iload_n (j := 3) dX5_arrival_10 rfl rfl ?_
  refine a_mmax (z := (if v1 < m then m else v1)) dX5_arrival_11 mlX5_159 (Nat.le_of_ble_eq_true rfl) (by omega) rfl ?_
  refine a_istore (lv' := [(4, vI (if v1 < m then m else v1)), (0, vA 63), (1, vI t), (2, vI s), (3, vI m)]) dX5_arrival_14 (by decide) rfl ?_
  refine a_aload_n (j := 1) dX5_arrival_16 rfl rfl (Nat.le_of_ble_eq_true rfl) ?_
  refine b_getp (a := 63) (p := 66) dX5_arrival_17 fwX5_22 (by decide) rfl (by decide) rfl rfl ?_
  refine a_iload_n (j := 2) dX5_arrival_20 rfl rfl ?_
  refine b_iaload (a := 66) (z := v3) (Int.toNat t) dX5_arrival_21 (by decide) rfl (by omega) (by omega) (sp_nil rfl _) e3 (fun r21_2 => ?_)
  refine a_aload_n (j := 1) dX5_arrival_22 rfl rfl (Nat.le_of_ble_eq_true rfl) ?_
  refine b_get (a := 63) (z := v5) (t := 0) dX5_arrival_23 fwX5_65 (by decide) rfl (by decide) rfl rfl e5 ?_
  refine a_icmp_ne (tgt := 33) dX5_arrival_26 (by decide) (fun c26_3 => ?_) (fun c26_3 => ?_)
  · refine a_aload_n (j := 1) dX5_arrival_33 rfl rfl (Nat.le_of_ble_eq_true rfl) ?_
    refine b_getp (a := 63) (p := 64) dX5_arrival_34 fwX5_15 (by decide) rfl (by decide) rfl rfl ?_
    refine a_aload_n (j := 1) dX5_arrival_37 rfl rfl (Nat.le_of_ble_eq_true rfl) ?_
    refine b_getp (a := 63) (p := 66) dX5_arrival_38 fwX5_22 (by decide) rfl (by decide) rfl rfl ?_
    refine a_iload_n (j := 2) dX5_arrival_41 rfl rfl ?_
    refine b_iaload (a := 66) (z := v3) (Int.toNat t) dX5_arrival_42 (by decide) rfl (by omega) (by omega) (sp_nil rfl _) e3 (fun r42_4 => ?_)
    refine b_iaload (a := 64) (z := v4) (Int.toNat v3) dX5_arrival_43 (by decide) rfl (by omega) (by omega) (sp_nil rfl _) e4 (fun r43_5 => ?_)
    refine a_istore (lv' := [(5, vI v4), (4, vI (if v1 < m then m else v1)), (0, vA 63), (1, vI t), (2, vI s), (3, vI m)]) dX5_arrival_44 (by decide) rfl ?_
    refine a_iload (j := 1) dX5_arrival_46 rfl ?_
    refine a_aload_n (j := 2) dX5_arrival_48 rfl rfl (Nat.le_of_ble_eq_true rfl) ?_
    refine b_getp (a := 63) (p := 67) dX5_arrival_49 fwX5_25 (by decide) rfl (by decide) rfl rfl ?_
    refine a_iload_n (j := 3) dX5_arrival_52 rfl rfl ?_
    refine b_iaload (a := 67) (z := v2) (Int.toNat t) dX5_arrival_53 (by decide) rfl (by omega) (by omega) (sp_nil rfl _) e2 (fun r53_6 => ?_)
    refine a_iadd (z := ((if v1 < m then m else v1) + v2)) dX5_arrival_54 (w_ok (by omega) (by omega)) ?_
    refine a_iload (j := 0) dX5_arrival_55 rfl ?_
    refine a_iadd (z := (((if v1 < m then m else v1) + v2) + v4)) dX5_arrival_57 (w_ok (by omega) (by omega)) ?_
    exact a_iret dX5_arrival_58 rfl (post_v kQ (by unfold arrF; split <;> (try split) <;> omega))
  · refine a_iconst dX5_arrival_29 ⟨by decide, by decide⟩ ?_
    refine a_goto (tgt := 44) dX5_arrival_30 (by decide) ?_
    refine a_istore (lv' := [(5, vI 0), (4, vI (if v1 < m then m else v1)), (0, vA 63), (1, vI t), (2, vI s), (3, vI m)]) dX5_arrival_44 (by decide) rfl ?_
    refine a_iload (j := 1) dX5_arrival_46 rfl ?_
    refine a_aload_n (j := 2) dX5_arrival_48 rfl rfl (Nat.le_of_ble_eq_true rfl) ?_
    refine b_getp (a := 63) (p := 67) dX5_arrival_49 fwX5_25 (by decide) rfl (by decide) rfl rfl ?_
    refine a_iload_n (j := 3) dX5_arrival_52 rfl rfl ?_
    refine b_iaload (a := 67) (z := v2) (Int.toNat t) dX5_arrival_53 (by decide) rfl (by omega) (by omega) (sp_nil rfl _) e2 (fun r53_7 => ?_)
    refine a_iadd (z := ((if v1 < m then m else v1) + v2)) dX5_arrival_54 (w_ok (by omega) (by omega)) ?_
    refine a_iload (j := 0) dX5_arrival_55 rfl ?_
    refine a_iadd (z := ((if v1 < m then m else v1) + v2) + 0) dX5_arrival_57 (w_ok (by omega) (by omega)) ?_
    exact a_iret dX5_arrival_58 rfl (post_v kQ (by unfold arrF; split <;> (try split) <;> omega))
set_option maxHeartbeats 8000000 in
theorem c_X5_missedBy {γ : GT} {d : Nat} {a s b r : Int} {h : Nat → Nat → Int} {τ : List AC} {Post : Option AV → List AC → Prop} (hd : 1 ≤ d) {v1 : Int} (e1 : h 72 (Int.toNat ((a * 4) + s)) = v1) {v2 : Int} (e2 : h 67 (Int.toNat a) = v2) {v3 : Int} (e3 : h 66 (Int.toNat a) = v3) {v4 : Int} (e4 : h 64 (Int.toNat v3) = v4) {v5 : Int} (e5 : h 72 (Int.toNat ((b * 4) + r)) = v5) {v6 : Int} (e6 : h 70 (Int.toNat b) = v6) (ha : 0 ≤ a ∧ a ≤ 11) (hb : 0 ≤ b ∧ b ≤ 11) (hs : 0 ≤ s ∧ s ≤ 3) (hr : 0 ≤ r ∧ r ≤ 3) (h1 : 0 ≤ v1 ∧ v1 ≤ 3000) (h2 : 1 ≤ v2 ∧ v2 ≤ 600) (h3 : 0 ≤ v3 ∧ v3 ≤ 5) (h4 : 0 ≤ v4 ∧ v4 ≤ 99) (h5 : 0 ≤ v5 ∧ v5 ≤ 3000) (h6 : 0 ≤ v6 ∧ v6 ≤ 30) (kQ : Post (some (vI (v1 + v2 + v4 - v5 - v6))) (mk h τ)) : Cj γ mX5_missedBy d 0 0 [vA 63, vI a, vI s, vI b, vI r] (mk h τ) Post := by
  refine c_of (by decide) (Nat.le_of_ble_eq_true rfl) ?_
  show Aj γ mX5_missedBy d 0 0 Post 0 [(0, vA 63), (1, vI a), (2, vI s), (3, vI b), (4, vI r)] [] (mk h τ)
  refine a_aload_n (j := 0) dX5_missedBy_0 rfl rfl (Nat.le_of_ble_eq_true rfl) ?_
  refine a_iload_n (j := 1) dX5_missedBy_1 rfl rfl ?_
  refine a_iload_n (j := 2) dX5_missedBy_2 rfl rfl ?_
  refine b_callV (d' := d - 1) (mc' := 0) (ms' := 0) (mc1 := 0) (ms1 := 0) (st := []) (b := 63) [vI a, vI s] dX5_missedBy_3 mwX5_there lkX5_164 (by decide) rfl rc_X5 rfl (Nat.le_of_ble_eq_true rfl) (by omega) rfl rfl (c_X5_there (v1 := v1) (v2 := v2) (by omega)  e1 e2 (show 0 ≤ a ∧ a ≤ 11 by omega) (show 0 ≤ s ∧ s ≤ 3 by omega) (show 0 ≤ v1 ∧ v1 ≤ 3000 by omega) (show 1 ≤ v2 ∧ v2 ≤ 600 by omega) ?_)
  show Aj γ mX5_missedBy d 0 0 Post 6 [(0, vA 63), (1, vI a), (2, vI s), (3, vI b), (4, vI r)] [vI (v1 + v2)] (mk h τ)
  refine a_aload_n (j := 0) dX5_missedBy_6 rfl rfl (Nat.le_of_ble_eq_true rfl) ?_
  refine b_getp (a := 63) (p := 64) dX5_missedBy_7 fwX5_15 (by decide) rfl (by decide) rfl rfl ?_
  refine a_aload_n (j := 0) dX5_missedBy_10 rfl rfl (Nat.le_of_ble_eq_true rfl) ?_
  refine b_getp (a := 63) (p := 66) dX5_missedBy_11 fwX5_22 (by decide) rfl (by decide) rfl rfl ?_
  refine a_iload_n (j := 1) dX5_missedBy_14 rfl rfl ?_
  refine b_iaload (a := 66) (z := v3) (Int.toNat a) dX5_missedBy_15 (by decide) rfl (by omega) (by omega) (sp_nil rfl _) e3 (fun r15_1 => ?_)
  refine b_iaload (a := 64) (z := v4) (Int.toNat v3) dX5_missedBy_16 (by decide) rfl (by omega) (by omega) (sp_nil rfl _) e4 (fun r16_2 => ?_)
  refine a_iadd (z := ((v1 + v2) + v4)) dX5_missedBy_17 (w_ok (by omega) (by omega)) ?_
  refine a_aload_n (j := 0) dX5_missedBy_18 rfl rfl (Nat.le_of_ble_eq_true rfl) ?_
  refine b_getp (a := 63) (p := 72) dX5_missedBy_19 fwX5_40 (by decide) rfl (by decide) rfl rfl ?_
  refine a_iload_n (j := 3) dX5_missedBy_22 rfl rfl ?_
  refine a_iconst dX5_missedBy_23 ⟨by decide, by decide⟩ ?_
  refine a_imul (z := (b * 4)) dX5_missedBy_24 (w_ok (by omega) (by omega)) ?_
  refine a_iload (j := 4) dX5_missedBy_25 rfl ?_
  refine a_iadd (z := ((b * 4) + r)) dX5_missedBy_27 (w_ok (by omega) (by omega)) ?_
  refine b_iaload (a := 72) (z := v5) (Int.toNat ((b * 4) + r)) dX5_missedBy_28 (by decide) rfl (by omega) (by omega) (sp_nil rfl _) e5 (fun r28_3 => ?_)
  refine a_isub (z := (((v1 + v2) + v4) - v5)) dX5_missedBy_29 (w_ok (by omega) (by omega)) ?_
  refine a_aload_n (j := 0) dX5_missedBy_30 rfl rfl (Nat.le_of_ble_eq_true rfl) ?_
  refine b_getp (a := 63) (p := 70) dX5_missedBy_31 fwX5_34 (by decide) rfl (by decide) rfl rfl ?_
  refine a_iload_n (j := 3) dX5_missedBy_34 rfl rfl ?_
  refine b_iaload (a := 70) (z := v6) (Int.toNat b) dX5_missedBy_35 (by decide) rfl (by omega) (by omega) (sp_nil rfl _) e6 (fun r35_4 => ?_)
  refine a_isub (z := ((((v1 + v2) + v4) - v5) - v6)) dX5_missedBy_36 (w_ok (by omega) (by omega)) ?_
  exact a_iret dX5_missedBy_37 rfl (post_v kQ (by omega))
def wonF (k : Int) : Int := if k = 1 then 0 else if k = 2 then 2147483647 else 288000
def wogF (k m n : Int) : Int := if k = 1 then (if m ≤ n then 10000 else 0) else if k = 2 then (if m ≤ n then 0 else 2147483647) else 100 * m
set_option maxHeartbeats 8000000 in
theorem c_X0_worthOfNone {γ : GT} {d : Nat} {c : Nat} {h : Nat → Nat → Int} {τ : List AC} {Post : Option AV → List AC → Prop} (hd : 0 ≤ d) (hc : c = 78 ∨ c = 80 ∨ c = 82) {v1 : Int} (e1 : h c 0 = v1) (kQ : Post (some (vI (wonF v1))) (mk h τ)) : Cj γ mX0_worthOfNone d 0 0 [vA c] (mk h τ) Post := by
  refine c_of (by decide) (Nat.le_of_ble_eq_true rfl) ?_
  show Aj γ mX0_worthOfNone d 0 0 Post 0 [(0, vA c)] [] (mk h τ)
  refine a_aload_n (j := 0) dX0_worthOfNone_0 rfl rfl (Nat.le_of_ble_eq_true rfl) ?_
  refine b_get (a := c) (z := v1) (t := 0) dX0_worthOfNone_1 fwX0_19 (by rcases hc with rfl | rfl | rfl <;> decide) (by rcases hc with rfl | rfl | rfl <;> rfl) (by decide) (by rcases hc with rfl | rfl | rfl <;> rfl) rfl e1 ?_
  rcases (show v1 = 1 ∨ v1 = 2 ∨ (¬ v1 = 1 ∧ ¬ v1 = 2) by omega) with c4_1 | c4_1 | c4_1
  · refine a_lookup (tgt := 32) (off := 28) dX0_worthOfNone_4 (by decide) (by rw [c4_1]; decide) (by decide) ?_
    refine a_iconst dX0_worthOfNone_32 ⟨by decide, by decide⟩ ?_
    exact a_iret dX0_worthOfNone_33 rfl (post_v kQ (by unfold wonF; split <;> (try split) <;> omega))
  · refine a_lookup (tgt := 34) (off := 30) dX0_worthOfNone_4 (by decide) (by rw [c4_1]; decide) (by decide) ?_
    refine a_ldc (z := 2147483647) dX0_worthOfNone_34 kwX0_80 ⟨by decide, by decide, by decide⟩ ?_
    exact a_iret dX0_worthOfNone_36 rfl (post_v kQ (by unfold wonF; split <;> (try split) <;> omega))
  · refine a_lookup (tgt := 37) (off := 33) dX0_worthOfNone_4 (by decide) (by simp only [Op.lookupswitch.offset]; (repeat' split) <;> omega) (by decide) ?_
    refine a_ldc (z := 288000) dX0_worthOfNone_37 kwX0_81 ⟨by decide, by decide, by decide⟩ ?_
    exact a_iret dX0_worthOfNone_39 rfl (post_v kQ (by unfold wonF; split <;> (try split) <;> omega))
set_option maxHeartbeats 8000000 in
theorem c_X0_worthAtGoal {γ : GT} {d : Nat} {c : Nat} {m n : Int} {h : Nat → Nat → Int} {τ : List AC} {Post : Option AV → List AC → Prop} (hd : 0 ≤ d) (hc : c = 78 ∨ c = 80 ∨ c = 82) {v1 : Int} (e1 : h c 0 = v1) (hm : 0 ≤ m ∧ m ≤ 10000) (kQ : Post (some (vI (wogF v1 m n))) (mk h τ)) : Cj γ mX0_worthAtGoal d 0 0 [vA c, vI m, vI n] (mk h τ) Post := by
  refine c_of (by decide) (Nat.le_of_ble_eq_true rfl) ?_
  show Aj γ mX0_worthAtGoal d 0 0 Post 0 [(0, vA c), (1, vI m), (2, vI n)] [] (mk h τ)
  refine a_iload_n (j := 1) dX0_worthAtGoal_0 rfl rfl ?_
  refine a_iload_n (j := 2) dX0_worthAtGoal_1 rfl rfl ?_
  refine a_icmp_gt (tgt := 9) dX0_worthAtGoal_2 (by decide) (fun c2_1 => ?_) (fun c2_1 => ?_)
  · refine a_iconst dX0_worthAtGoal_9 ⟨by decide, by decide⟩ ?_
    refine a_istore_n (lv' := [(3, vI 0), (0, vA c), (1, vI m), (2, vI n)]) dX0_worthAtGoal_10 rfl (by decide) rfl ?_
    refine a_aload_n (j := 1) dX0_worthAtGoal_11 rfl rfl (Nat.le_of_ble_eq_true rfl) ?_
    refine b_get (a := c) (z := v1) (t := 0) dX0_worthAtGoal_12 fwX0_19 (by rcases hc with rfl | rfl | rfl <;> decide) (by rcases hc with rfl | rfl | rfl <;> rfl) (by decide) (by rcases hc with rfl | rfl | rfl <;> rfl) rfl e1 ?_
    rcases (show v1 = 1 ∨ v1 = 2 ∨ (¬ v1 = 1 ∧ ¬ v1 = 2) by omega) with c15_2 | c15_2 | c15_2
    · refine a_lookup (tgt := 40) (off := 25) dX0_worthAtGoal_15 (by decide) (by rw [c15_2]; decide) (by decide) ?_
      refine a_iload_n (j := 0) dX0_worthAtGoal_40 rfl rfl ?_
      refine a_if_eq (tgt := 50) dX0_worthAtGoal_41 (by decide) (fun _ => ?_) (fun c => absurd c (by decide))
      refine a_iconst dX0_worthAtGoal_50 ⟨by decide, by decide⟩ ?_
      exact a_iret dX0_worthAtGoal_51 rfl (post_v kQ (by unfold wogF; split <;> (try split) <;> (try split) <;> omega))
    · refine a_lookup (tgt := 52) (off := 37) dX0_worthAtGoal_15 (by decide) (by rw [c15_2]; decide) (by decide) ?_
      refine a_iload_n (j := 0) dX0_worthAtGoal_52 rfl rfl ?_
      refine a_if_eq (tgt := 60) dX0_worthAtGoal_53 (by decide) (fun _ => ?_) (fun c => absurd c (by decide))
      refine a_ldc (z := 2147483647) dX0_worthAtGoal_60 kwX0_80 ⟨by decide, by decide, by decide⟩ ?_
      exact a_iret dX0_worthAtGoal_62 rfl (post_v kQ (by unfold wogF; split <;> (try split) <;> (try split) <;> omega))
    · refine a_lookup (tgt := 63) (off := 48) dX0_worthAtGoal_15 (by decide) (by simp only [Op.lookupswitch.offset]; (repeat' split) <;> omega) (by decide) ?_
      refine a_bipush dX0_worthAtGoal_63 ⟨by decide, by decide, by decide⟩ ?_
      refine a_iload_n (j := 2) dX0_worthAtGoal_65 rfl rfl ?_
      refine a_imul (z := (100 * m)) dX0_worthAtGoal_66 (w_ok (by omega) (by omega)) ?_
      exact a_iret dX0_worthAtGoal_67 rfl (post_v kQ (by unfold wogF; split <;> (try split) <;> (try split) <;> omega))
  · refine a_iconst dX0_worthAtGoal_5 ⟨by decide, by decide⟩ ?_
    refine a_goto (tgt := 10) dX0_worthAtGoal_6 (by decide) ?_
    refine a_istore_n (lv' := [(3, vI 1), (0, vA c), (1, vI m), (2, vI n)]) dX0_worthAtGoal_10 rfl (by decide) rfl ?_
    refine a_aload_n (j := 1) dX0_worthAtGoal_11 rfl rfl (Nat.le_of_ble_eq_true rfl) ?_
    refine b_get (a := c) (z := v1) (t := 0) dX0_worthAtGoal_12 fwX0_19 (by rcases hc with rfl | rfl | rfl <;> decide) (by rcases hc with rfl | rfl | rfl <;> rfl) (by decide) (by rcases hc with rfl | rfl | rfl <;> rfl) rfl e1 ?_
    rcases (show v1 = 1 ∨ v1 = 2 ∨ (¬ v1 = 1 ∧ ¬ v1 = 2) by omega) with c15_3 | c15_3 | c15_3
    · refine a_lookup (tgt := 40) (off := 25) dX0_worthAtGoal_15 (by decide) (by rw [c15_3]; decide) (by decide) ?_
      refine a_iload_n (j := 0) dX0_worthAtGoal_40 rfl rfl ?_
      refine a_if_eq (tgt := 50) dX0_worthAtGoal_41 (by decide) (fun c => absurd c (by decide)) (fun _ => ?_)
      refine a_sipush dX0_worthAtGoal_44 ⟨by decide, by decide, by decide⟩ ?_
      refine a_goto (tgt := 51) dX0_worthAtGoal_47 (by decide) ?_
      exact a_iret dX0_worthAtGoal_51 rfl (post_v kQ (by unfold wogF; split <;> (try split) <;> (try split) <;> omega))
    · refine a_lookup (tgt := 52) (off := 37) dX0_worthAtGoal_15 (by decide) (by rw [c15_3]; decide) (by decide) ?_
      refine a_iload_n (j := 0) dX0_worthAtGoal_52 rfl rfl ?_
      refine a_if_eq (tgt := 60) dX0_worthAtGoal_53 (by decide) (fun c => absurd c (by decide)) (fun _ => ?_)
      refine a_iconst dX0_worthAtGoal_56 ⟨by decide, by decide⟩ ?_
      refine a_goto (tgt := 62) dX0_worthAtGoal_57 (by decide) ?_
      exact a_iret dX0_worthAtGoal_62 rfl (post_v kQ (by unfold wogF; split <;> (try split) <;> (try split) <;> omega))
    · refine a_lookup (tgt := 63) (off := 48) dX0_worthAtGoal_15 (by decide) (by simp only [Op.lookupswitch.offset]; (repeat' split) <;> omega) (by decide) ?_
      refine a_bipush dX0_worthAtGoal_63 ⟨by decide, by decide, by decide⟩ ?_
      refine a_iload_n (j := 2) dX0_worthAtGoal_65 rfl rfl ?_
      refine a_imul (z := (100 * m)) dX0_worthAtGoal_66 (w_ok (by omega) (by omega)) ?_
      exact a_iret dX0_worthAtGoal_67 rfl (post_v kQ (by unfold wogF; split <;> (try split) <;> (try split) <;> omega))
set_option maxHeartbeats 8000000 in
theorem c_X0_isBetter {γ : GT} {d : Nat} {c : Nat} {a b : Int} {h : Nat → Nat → Int} {τ : List AC} {Post : Option AV → List AC → Prop} (hd : 0 ≤ d) (hc : c = 78 ∨ c = 80 ∨ c = 82) {v1 : Int} (e1 : h c 0 = v1) (kT : (v1 = 1 ∧ b < a) ∨ (¬ v1 = 1 ∧ a < b) → Post (some (vI 1)) (mk h τ)) (kF : ¬ ((v1 = 1 ∧ b < a) ∨ (¬ v1 = 1 ∧ a < b)) → Post (some (vI 0)) (mk h τ)) : Cj γ mX0_isBetter d 0 0 [vA c, vI a, vI b] (mk h τ) Post := by
  refine c_of (by decide) (Nat.le_of_ble_eq_true rfl) ?_
  show Aj γ mX0_isBetter d 0 0 Post 0 [(0, vA c), (1, vI a), (2, vI b)] [] (mk h τ)
  refine a_aload_n (j := 0) dX0_isBetter_0 rfl rfl (Nat.le_of_ble_eq_true rfl) ?_
  refine b_get (a := c) (z := v1) (t := 0) dX0_isBetter_1 fwX0_19 (by rcases hc with rfl | rfl | rfl <;> decide) (by rcases hc with rfl | rfl | rfl <;> rfl) (by decide) (by rcases hc with rfl | rfl | rfl <;> rfl) rfl e1 ?_
  refine a_iconst dX0_isBetter_4 ⟨by decide, by decide⟩ ?_
  refine a_icmp_ne (tgt := 21) dX0_isBetter_5 (by decide) (fun c5_1 => ?_) (fun c5_1 => ?_)
  · refine a_iload_n (j := 1) dX0_isBetter_21 rfl rfl ?_
    refine a_iload_n (j := 2) dX0_isBetter_22 rfl rfl ?_
    refine a_icmp_ge (tgt := 30) dX0_isBetter_23 (by decide) (fun c23_2 => ?_) (fun c23_2 => ?_)
    · refine a_iconst dX0_isBetter_30 ⟨by decide, by decide⟩ ?_
      exact a_zret dX0_isBetter_31 rfl (by first | exact Or.inl rfl | exact Or.inr rfl | omega) (kF (by omega))
    · refine a_iconst dX0_isBetter_26 ⟨by decide, by decide⟩ ?_
      refine a_goto (tgt := 31) dX0_isBetter_27 (by decide) ?_
      exact a_zret dX0_isBetter_31 rfl (by first | exact Or.inl rfl | exact Or.inr rfl | omega) (kT (by omega))
  · refine a_iload_n (j := 1) dX0_isBetter_8 rfl rfl ?_
    refine a_iload_n (j := 2) dX0_isBetter_9 rfl rfl ?_
    refine a_icmp_le (tgt := 17) dX0_isBetter_10 (by decide) (fun c10_3 => ?_) (fun c10_3 => ?_)
    · refine a_iconst dX0_isBetter_17 ⟨by decide, by decide⟩ ?_
      refine a_goto (tgt := 31) dX0_isBetter_18 (by decide) ?_
      exact a_zret dX0_isBetter_31 rfl (by first | exact Or.inl rfl | exact Or.inr rfl | omega) (kF (by omega))
    · refine a_iconst dX0_isBetter_13 ⟨by decide, by decide⟩ ?_
      refine a_goto (tgt := 31) dX0_isBetter_14 (by decide) ?_
      exact a_zret dX0_isBetter_31 rfl (by first | exact Or.inl rfl | exact Or.inr rfl | omega) (kT (by omega))
set_option maxHeartbeats 8000000 in
theorem c_X9_later {γ : GT} {d : Nat} {t s : Int} {h : Nat → Nat → Int} {τ : List AC} {Post : Option AV → List AC → Prop} (hd : 0 ≤ d) {v1 : Int} (e1 : h 128 (Int.toNat t) = v1) {v2 : Int} (e2 : h 130 (Int.toNat ((4 * t) + s)) = v2) (ht : 0 ≤ t ∧ t ≤ 11) (hs : 0 ≤ s ∧ s ≤ 3) (h1 : 0 ≤ v1 ∧ v1 ≤ 1559) (h2 : 0 ≤ v2 ∧ v2 ≤ 1000) (kQ : Post (some (vI (v1 + v2))) (mk h τ)) : Cj γ mX9_later d 0 0 [vA 123, vI t, vI s] (mk h τ) Post := by
  refine c_of (by decide) (Nat.le_of_ble_eq_true rfl) ?_
  show Aj γ mX9_later d 0 0 Post 0 [(0, vA 123), (1, vI t), (2, vI s)] [] (mk h τ)
  refine a_aload_n (j := 0) dX9_later_0 rfl rfl (Nat.le_of_ble_eq_true rfl) ?_
  refine b_getp (a := 123) (p := 128) dX9_later_1 fwX9_22 (by decide) rfl (by decide) rfl rfl ?_
  refine a_iload_n (j := 1) dX9_later_4 rfl rfl ?_
  refine b_iaload (a := 128) (z := v1) (Int.toNat t) dX9_later_5 (by decide) rfl (by omega) (by omega) (sp_nil rfl _) e1 (fun r5_1 => ?_)
  refine a_aload_n (j := 0) dX9_later_6 rfl rfl (Nat.le_of_ble_eq_true rfl) ?_
  refine b_getp (a := 123) (p := 130) dX9_later_7 fwX9_28 (by decide) rfl (by decide) rfl rfl ?_
  refine a_iconst dX9_later_10 ⟨by decide, by decide⟩ ?_
  refine a_iload_n (j := 1) dX9_later_11 rfl rfl ?_
  refine a_imul (z := (4 * t)) dX9_later_12 (w_ok (by omega) (by omega)) ?_
  refine a_iload_n (j := 2) dX9_later_13 rfl rfl ?_
  refine a_iadd (z := ((4 * t) + s)) dX9_later_14 (w_ok (by omega) (by omega)) ?_
  refine b_iaload (a := 130) (z := v2) (Int.toNat ((4 * t) + s)) dX9_later_15 (by decide) rfl (by omega) (by omega) (sp_nil rfl _) e2 (fun r15_2 => ?_)
  refine a_iadd (z := (v1 + v2)) dX9_later_16 (w_ok (by omega) (by omega)) ?_
  exact a_iret dX9_later_17 rfl (post_v kQ (by rfl))
set_option maxHeartbeats 8000000 in
theorem c_X9_there {γ : GT} {d : Nat} {t s : Int} {h : Nat → Nat → Int} {τ : List AC} {Post : Option AV → List AC → Prop} (hd : 1 ≤ d) {v1 : Int} (e1 : h 128 (Int.toNat t) = v1) {v2 : Int} (e2 : h 130 (Int.toNat ((4 * t) + s)) = v2) {v3 : Int} (e3 : h 124 (Int.toNat ((15 + (11 * t)) + 4)) = v3) (ht : 0 ≤ t ∧ t ≤ 11) (hs : 0 ≤ s ∧ s ≤ 3) (h1 : 0 ≤ v1 ∧ v1 ≤ 1559) (h2 : 0 ≤ v2 ∧ v2 ≤ 1000) (h3 : 1 ≤ v3 ∧ v3 ≤ 600) (kQ : Post (some (vI (v1 + v2 + v3))) (mk h τ)) : Cj γ mX9_there d 0 0 [vA 123, vI t, vI s] (mk h τ) Post := by
  refine c_of (by decide) (Nat.le_of_ble_eq_true rfl) ?_
  show Aj γ mX9_there d 0 0 Post 0 [(0, vA 123), (1, vI t), (2, vI s)] [] (mk h τ)
  refine a_aload_n (j := 0) dX9_there_0 rfl rfl (Nat.le_of_ble_eq_true rfl) ?_
  refine a_iload_n (j := 1) dX9_there_1 rfl rfl ?_
  refine a_iload_n (j := 2) dX9_there_2 rfl rfl ?_
  refine b_callV (d' := d - 1) (mc' := 0) (ms' := 0) (mc1 := 0) (ms1 := 0) (st := []) (b := 123) [vI t, vI s] dX9_there_3 mwX9_later lkX9_143 (by decide) rfl rc_X9 rfl (Nat.le_of_ble_eq_true rfl) (by omega) rfl rfl (c_X9_later (v1 := v1) (v2 := v2) (by omega)  e1 e2 (show 0 ≤ t ∧ t ≤ 11 by omega) (show 0 ≤ s ∧ s ≤ 3 by omega) (show 0 ≤ v1 ∧ v1 ≤ 1559 by omega) (show 0 ≤ v2 ∧ v2 ≤ 1000 by omega) ?_)
  show Aj γ mX9_there d 0 0 Post 6 [(0, vA 123), (1, vI t), (2, vI s)] [vI (v1 + v2)] (mk h τ)
  refine a_aload_n (j := 0) dX9_there_6 rfl rfl (Nat.le_of_ble_eq_true rfl) ?_
  refine a_iload_n (j := 1) dX9_there_7 rfl rfl ?_
  refine a_iconst dX9_there_8 ⟨by decide, by decide⟩ ?_
  refine b_callV (d' := d - 1) (mc' := 0) (ms' := 0) (mc1 := 0) (ms1 := 0) (st := [vI (v1 + v2)]) (b := 123) [vI t, vI 4] dX9_there_9 mwX9_of lkX9_107 (by decide) rfl rc_X9 rfl (Nat.le_of_ble_eq_true rfl) (by omega) rfl rfl (c_X9_of (v1 := v3) (by omega)  e3 (show 0 ≤ t ∧ t ≤ 11 ∧ 0 ≤ 4 ∧ 4 ≤ 10 by omega) ?_)
  show Aj γ mX9_there d 0 0 Post 12 [(0, vA 123), (1, vI t), (2, vI s)] [vI v3, vI (v1 + v2)] (mk h τ)
  refine a_iadd (z := ((v1 + v2) + v3)) dX9_there_12 (w_ok (by omega) (by omega)) ?_
  exact a_iret dX9_there_13 rfl (post_v kQ (by omega))
set_option maxHeartbeats 8000000 in
theorem c_X9_rank {γ : GT} {d : Nat} {g : Int} {h : Nat → Nat → Int} {τ : List AC} {Post : Option AV → List AC → Prop} (hd : 0 ≤ d) (kQ : Post (some (vI (if g = -1 then 1 else if g = -2 then 2 else if -5 ≤ g then 3 else if -7 ≤ g then 4 else if -9 ≤ g then 5 else 6))) (mk h τ)) : Cj γ mX9_rank d 0 0 [vI g] (mk h τ) Post := by
  refine c_of (by decide) (Nat.le_of_ble_eq_true rfl) ?_
  show Aj γ mX9_rank d 0 0 Post 0 [(0, vI g)] [] (mk h τ)
  refine a_iload_n (j := 0) dX9_rank_0 rfl rfl ?_
  refine a_iconst dX9_rank_1 ⟨by decide, by decide⟩ ?_
  refine a_icmp_ne (tgt := 9) dX9_rank_2 (by decide) (fun c2_1 => ?_) (fun c2_1 => ?_)
  · refine a_iload_n (j := 0) dX9_rank_9 rfl rfl ?_
    refine a_bipush dX9_rank_10 ⟨by decide, by decide, by decide⟩ ?_
    refine a_icmp_ne (tgt := 19) dX9_rank_12 (by decide) (fun c12_2 => ?_) (fun c12_2 => ?_)
    · refine a_iload_n (j := 0) dX9_rank_19 rfl rfl ?_
      refine a_bipush dX9_rank_20 ⟨by decide, by decide, by decide⟩ ?_
      refine a_icmp_lt (tgt := 29) dX9_rank_22 (by decide) (fun c22_3 => ?_) (fun c22_3 => ?_)
      · refine a_iload_n (j := 0) dX9_rank_29 rfl rfl ?_
        refine a_bipush dX9_rank_30 ⟨by decide, by decide, by decide⟩ ?_
        refine a_icmp_lt (tgt := 39) dX9_rank_32 (by decide) (fun c32_4 => ?_) (fun c32_4 => ?_)
        · refine a_iload_n (j := 0) dX9_rank_39 rfl rfl ?_
          refine a_bipush dX9_rank_40 ⟨by decide, by decide, by decide⟩ ?_
          refine a_icmp_lt (tgt := 49) dX9_rank_42 (by decide) (fun c42_5 => ?_) (fun c42_5 => ?_)
          · refine a_bipush dX9_rank_49 ⟨by decide, by decide, by decide⟩ ?_
            exact a_iret dX9_rank_51 rfl (post_v kQ (by split <;> (try split) <;> (try split) <;> (try split) <;> (try split) <;> omega))
          · refine a_iconst dX9_rank_45 ⟨by decide, by decide⟩ ?_
            refine a_goto (tgt := 51) dX9_rank_46 (by decide) ?_
            exact a_iret dX9_rank_51 rfl (post_v kQ (by split <;> (try split) <;> (try split) <;> (try split) <;> (try split) <;> omega))
        · refine a_iconst dX9_rank_35 ⟨by decide, by decide⟩ ?_
          refine a_goto (tgt := 51) dX9_rank_36 (by decide) ?_
          exact a_iret dX9_rank_51 rfl (post_v kQ (by split <;> (try split) <;> (try split) <;> (try split) <;> (try split) <;> omega))
      · refine a_iconst dX9_rank_25 ⟨by decide, by decide⟩ ?_
        refine a_goto (tgt := 51) dX9_rank_26 (by decide) ?_
        exact a_iret dX9_rank_51 rfl (post_v kQ (by split <;> (try split) <;> (try split) <;> (try split) <;> (try split) <;> omega))
    · refine a_iconst dX9_rank_15 ⟨by decide, by decide⟩ ?_
      refine a_goto (tgt := 51) dX9_rank_16 (by decide) ?_
      exact a_iret dX9_rank_51 rfl (post_v kQ (by split <;> (try split) <;> (try split) <;> (try split) <;> (try split) <;> omega))
  · refine a_iconst dX9_rank_5 ⟨by decide, by decide⟩ ?_
    refine a_goto (tgt := 51) dX9_rank_6 (by decide) ?_
    exact a_iret dX9_rank_51 rfl (post_v kQ (by split <;> (try split) <;> (try split) <;> (try split) <;> (try split) <;> omega))
set_option maxHeartbeats 8000000 in
theorem c_X9_readyBy {γ : GT} {d : Nat} {t m s : Int} {h : Nat → Nat → Int} {τ : List AC} {Post : Option AV → List AC → Prop} (hd : 1 ≤ d) {v1 : Int} (e1 : h 128 (Int.toNat t) = v1) {v2 : Int} (e2 : h 130 (Int.toNat ((4 * t) + s)) = v2) {v3 : Int} (e3 : h 124 (Int.toNat ((15 + (11 * t)) + 4)) = v3) {v4 : Int} (e4 : h 124 (Int.toNat ((15 + (11 * t)) + 2)) = v4) {v5 : Int} (e5 : h 127 (Int.toNat v4) = v5) {v6 : Int} (e6 : h 124 2 = v6) (ht : 0 ≤ t ∧ t ≤ 11) (hs : 0 ≤ s ∧ s ≤ 3) (h1 : 0 ≤ v1 ∧ v1 ≤ 1559) (h2 : 0 ≤ v2 ∧ v2 ≤ 1000) (h3 : 1 ≤ v3 ∧ v3 ≤ 600) (h4 : 0 ≤ v4 ∧ v4 ≤ 5) (h5 : 0 ≤ v5 ∧ v5 ≤ 99) (h6 : 0 ≤ m ∧ m ≤ 5000) (kQ : Post (some (vI (arrF (v1 + v2) m v3 v4 v6 v5))) (mk h τ)) : Cj γ mX9_readyBy d 0 0 [vA 123, vI t, vI m, vI s] (mk h τ) Post := by
  refine c_of (by decide) (Nat.le_of_ble_eq_true rfl) ?_
  show Aj γ mX9_readyBy d 0 0 Post 0 [(0, vA 123), (1, vI t), (2, vI m), (3, vI s)] [] (mk h τ)
  refine a_aload_n (j := 0) dX9_readyBy_0 rfl rfl (Nat.le_of_ble_eq_true rfl) ?_
  refine a_iload_n (j := 1) dX9_readyBy_1 rfl rfl ?_
  refine a_iload_n (j := 3) dX9_readyBy_2 rfl rfl ?_
  refine b_callV (d' := d - 1) (mc' := 0) (ms' := 0) (mc1 := 0) (ms1 := 0) (st := []) (b := 123) [vI t, vI s] dX9_readyBy_3 mwX9_later lkX9_143 (by decide) rfl rc_X9 rfl (Nat.le_of_ble_eq_true rfl) (by omega) rfl rfl (c_X9_later (v1 := v1) (v2 := v2) (by omega)  e1 e2 (show 0 ≤ t ∧ t ≤ 11 by omega) (show 0 ≤ s ∧ s ≤ 3 by omega) (show 0 ≤ v1 ∧ v1 ≤ 1559 by omega) (show 0 ≤ v2 ∧ v2 ≤ 1000 by omega) ?_)
  show Aj γ mX9_readyBy d 0 0 Post 6 [(0, vA 123), (1, vI t), (2, vI m), (3, vI s)] [vI (v1 + v2)] (mk h τ)
  refine a_iload_n (j := 2) dX9_readyBy_6 rfl rfl ?_
  refine a_icmp_le (tgt := 19) dX9_readyBy_7 (by decide) (fun c7_1 => ?_) (fun c7_1 => ?_)
  · refine a_iload_n (j := 2) dX9_readyBy_19 rfl rfl ?_
    refine a_istore (lv' := [(4, vI m), (0, vA 123), (1, vI t), (2, vI m), (3, vI s)]) dX9_readyBy_20 (by decide) rfl ?_
    refine a_aload_n (j := 1) dX9_readyBy_22 rfl rfl (Nat.le_of_ble_eq_true rfl) ?_
    refine a_iload_n (j := 2) dX9_readyBy_23 rfl rfl ?_
    refine a_iconst dX9_readyBy_24 ⟨by decide, by decide⟩ ?_
    refine b_callV (d' := d - 1) (mc' := 0) (ms' := 0) (mc1 := 0) (ms1 := 0) (st := []) (b := 123) [vI t, vI 2] dX9_readyBy_25 mwX9_of lkX9_107 (by decide) rfl rc_X9 rfl (Nat.le_of_ble_eq_true rfl) (by omega) rfl rfl (c_X9_of (v1 := v4) (by omega)  e4 (show 0 ≤ t ∧ t ≤ 11 ∧ 0 ≤ 2 ∧ 2 ≤ 10 by omega) ?_)
    show Aj γ mX9_readyBy d 0 0 Post 28 [(4, vI m), (0, vA 123), (1, vI t), (2, vI m), (3, vI s)] [vI v4] (mk h τ)
    refine a_istore (lv' := [(5, vI v4), (4, vI m), (0, vA 123), (1, vI t), (2, vI m), (3, vI s)]) dX9_readyBy_28 (by decide) rfl ?_
    refine a_iload (j := 1) dX9_readyBy_30 rfl ?_
    refine a_aload_n (j := 2) dX9_readyBy_32 rfl rfl (Nat.le_of_ble_eq_true rfl) ?_
    refine a_iload_n (j := 3) dX9_readyBy_33 rfl rfl ?_
    refine a_iconst dX9_readyBy_34 ⟨by decide, by decide⟩ ?_
    refine b_callV (d' := d - 1) (mc' := 0) (ms' := 0) (mc1 := 0) (ms1 := 0) (st := [vI m]) (b := 123) [vI t, vI 4] dX9_readyBy_35 mwX9_of lkX9_107 (by decide) rfl rc_X9 rfl (Nat.le_of_ble_eq_true rfl) (by omega) rfl rfl (c_X9_of (v1 := v3) (by omega)  e3 (show 0 ≤ t ∧ t ≤ 11 ∧ 0 ≤ 4 ∧ 4 ≤ 10 by omega) ?_)
    show Aj γ mX9_readyBy d 0 0 Post 38 [(5, vI v4), (4, vI m), (0, vA 123), (1, vI t), (2, vI m), (3, vI s)] [vI v3, vI m] (mk h τ)
    refine a_iadd (z := (m + v3)) dX9_readyBy_38 (w_ok (by omega) (by omega)) ?_
    refine a_iload (j := 0) dX9_readyBy_39 rfl ?_
    refine a_aload_n (j := 2) dX9_readyBy_41 rfl rfl (Nat.le_of_ble_eq_true rfl) ?_
    refine b_getp (a := 123) (p := 124) dX9_readyBy_42 fwX9_9 (by decide) rfl (by decide) rfl rfl ?_
    refine a_iconst dX9_readyBy_45 ⟨by decide, by decide⟩ ?_
    refine b_iaload (a := 124) (z := v6) 2 dX9_readyBy_46 (by decide) rfl rfl (by decide) rfl e6 (fun r46_2 => ?_)
    refine a_icmp_ne (tgt := 54) dX9_readyBy_47 (by decide) (fun c47_3 => ?_) (fun c47_3 => ?_)
    · refine a_aload_n (j := 2) dX9_readyBy_54 rfl rfl (Nat.le_of_ble_eq_true rfl) ?_
      refine b_getp (a := 123) (p := 127) dX9_readyBy_55 fwX9_19 (by decide) rfl (by decide) rfl rfl ?_
      refine a_iload (j := 0) dX9_readyBy_58 rfl ?_
      refine b_iaload (a := 127) (z := v5) (Int.toNat v4) dX9_readyBy_60 (by decide) rfl (by omega) (by omega) (sp_nil rfl _) e5 (fun r60_4 => ?_)
      refine a_iadd (z := ((m + v3) + v5)) dX9_readyBy_61 (w_ok (by omega) (by omega)) ?_
      exact a_iret dX9_readyBy_62 rfl (post_v kQ (by unfold arrF; split <;> (try split) <;> omega))
    · refine a_iconst dX9_readyBy_50 ⟨by decide, by decide⟩ ?_
      refine a_goto (tgt := 61) dX9_readyBy_51 (by decide) ?_
      refine a_iadd (z := (m + v3) + 0) dX9_readyBy_61 (w_ok (by omega) (by omega)) ?_
      exact a_iret dX9_readyBy_62 rfl (post_v kQ (by unfold arrF; split <;> (try split) <;> omega))
  · refine a_aload_n (j := 0) dX9_readyBy_10 rfl rfl (Nat.le_of_ble_eq_true rfl) ?_
    refine a_iload_n (j := 1) dX9_readyBy_11 rfl rfl ?_
    refine a_iload_n (j := 3) dX9_readyBy_12 rfl rfl ?_
    refine b_callV (d' := d - 1) (mc' := 0) (ms' := 0) (mc1 := 0) (ms1 := 0) (st := []) (b := 123) [vI t, vI s] dX9_readyBy_13 mwX9_later lkX9_143 (by decide) rfl rc_X9 rfl (Nat.le_of_ble_eq_true rfl) (by omega) rfl rfl (c_X9_later (v1 := v1) (v2 := v2) (by omega)  e1 e2 (show 0 ≤ t ∧ t ≤ 11 by omega) (show 0 ≤ s ∧ s ≤ 3 by omega) (show 0 ≤ v1 ∧ v1 ≤ 1559 by omega) (show 0 ≤ v2 ∧ v2 ≤ 1000 by omega) ?_)
    show Aj γ mX9_readyBy d 0 0 Post 16 [(0, vA 123), (1, vI t), (2, vI m), (3, vI s)] [vI (v1 + v2)] (mk h τ)
    refine a_goto (tgt := 20) dX9_readyBy_16 (by decide) ?_
    refine a_istore (lv' := [(4, vI (v1 + v2)), (0, vA 123), (1, vI t), (2, vI m), (3, vI s)]) dX9_readyBy_20 (by decide) rfl ?_
    refine a_aload_n (j := 1) dX9_readyBy_22 rfl rfl (Nat.le_of_ble_eq_true rfl) ?_
    refine a_iload_n (j := 2) dX9_readyBy_23 rfl rfl ?_
    refine a_iconst dX9_readyBy_24 ⟨by decide, by decide⟩ ?_
    refine b_callV (d' := d - 1) (mc' := 0) (ms' := 0) (mc1 := 0) (ms1 := 0) (st := []) (b := 123) [vI t, vI 2] dX9_readyBy_25 mwX9_of lkX9_107 (by decide) rfl rc_X9 rfl (Nat.le_of_ble_eq_true rfl) (by omega) rfl rfl (c_X9_of (v1 := v4) (by omega)  e4 (show 0 ≤ t ∧ t ≤ 11 ∧ 0 ≤ 2 ∧ 2 ≤ 10 by omega) ?_)
    show Aj γ mX9_readyBy d 0 0 Post 28 [(4, vI (v1 + v2)), (0, vA 123), (1, vI t), (2, vI m), (3, vI s)] [vI v4] (mk h τ)
    refine a_istore (lv' := [(5, vI v4), (4, vI (v1 + v2)), (0, vA 123), (1, vI t), (2, vI m), (3, vI s)]) dX9_readyBy_28 (by decide) rfl ?_
    refine a_iload (j := 1) dX9_readyBy_30 rfl ?_
    refine a_aload_n (j := 2) dX9_readyBy_32 rfl rfl (Nat.le_of_ble_eq_true rfl) ?_
    refine a_iload_n (j := 3) dX9_readyBy_33 rfl rfl ?_
    refine a_iconst dX9_readyBy_34 ⟨by decide, by decide⟩ ?_
    refine b_callV (d' := d - 1) (mc' := 0) (ms' := 0) (mc1 := 0) (ms1 := 0) (st := [vI (v1 + v2)]) (b := 123) [vI t, vI 4] dX9_readyBy_35 mwX9_of lkX9_107 (by decide) rfl rc_X9 rfl (Nat.le_of_ble_eq_true rfl) (by omega) rfl rfl (c_X9_of (v1 := v3) (by omega)  e3 (show 0 ≤ t ∧ t ≤ 11 ∧ 0 ≤ 4 ∧ 4 ≤ 10 by omega) ?_)
    show Aj γ mX9_readyBy d 0 0 Post 38 [(5, vI v4), (4, vI (v1 + v2)), (0, vA 123), (1, vI t), (2, vI m), (3, vI s)] [vI v3, vI (v1 + v2)] (mk h τ)
    refine a_iadd (z := ((v1 + v2) + v3)) dX9_readyBy_38 (w_ok (by omega) (by omega)) ?_
    refine a_iload (j := 0) dX9_readyBy_39 rfl ?_
    refine a_aload_n (j := 2) dX9_readyBy_41 rfl rfl (Nat.le_of_ble_eq_true rfl) ?_
    refine b_getp (a := 123) (p := 124) dX9_readyBy_42 fwX9_9 (by decide) rfl (by decide) rfl rfl ?_
    refine a_iconst dX9_readyBy_45 ⟨by decide, by decide⟩ ?_
    refine b_iaload (a := 124) (z := v6) 2 dX9_readyBy_46 (by decide) rfl rfl (by decide) rfl e6 (fun r46_5 => ?_)
    refine a_icmp_ne (tgt := 54) dX9_readyBy_47 (by decide) (fun c47_6 => ?_) (fun c47_6 => ?_)
    · refine a_aload_n (j := 2) dX9_readyBy_54 rfl rfl (Nat.le_of_ble_eq_true rfl) ?_
      refine b_getp (a := 123) (p := 127) dX9_readyBy_55 fwX9_19 (by decide) rfl (by decide) rfl rfl ?_
      refine a_iload (j := 0) dX9_readyBy_58 rfl ?_
      refine b_iaload (a := 127) (z := v5) (Int.toNat v4) dX9_readyBy_60 (by decide) rfl (by omega) (by omega) (sp_nil rfl _) e5 (fun r60_7 => ?_)
      refine a_iadd (z := (((v1 + v2) + v3) + v5)) dX9_readyBy_61 (w_ok (by omega) (by omega)) ?_
      exact a_iret dX9_readyBy_62 rfl (post_v kQ (by unfold arrF; split <;> (try split) <;> omega))
    · refine a_iconst dX9_readyBy_50 ⟨by decide, by decide⟩ ?_
      refine a_goto (tgt := 61) dX9_readyBy_51 (by decide) ?_
      refine a_iadd (z := ((v1 + v2) + v3) + 0) dX9_readyBy_61 (w_ok (by omega) (by omega)) ?_
      exact a_iret dX9_readyBy_62 rfl (post_v kQ (by unfold arrF; split <;> (try split) <;> omega))
set_option maxHeartbeats 8000000 in
theorem c_X9_delayOf {γ : GT} {d : Nat} {t s : Int} {h : Nat → Nat → Int} {τ : List AC} {Post : Option AV → List AC → Prop} (hd : 1 ≤ d) {v1 : Int} (e1 : h 124 (Int.toNat ((15 + (11 * t)) + 6)) = v1) {v2 : Int} (e2 : h 130 (Int.toNat ((4 * v1) + s)) = v2) {v3 : Int} (e3 : h 124 (Int.toNat ((15 + (11 * t)) + 0)) = v3) (ht : 0 ≤ t ∧ t ≤ 11) (hs : 0 ≤ s ∧ s ≤ 3) (hh : v1 ≤ 11) (hd0 : 0 ≤ v2 ∧ v2 ≤ 1000) (kQ : Post (some (vI (delF v3 s (if v1 < 0 then 0 else v2)))) (mk h τ)) : Cj γ mX9_delayOf d 0 0 [vA 123, vI t, vI s] (mk h τ) Post := by
  refine c_of (by decide) (Nat.le_of_ble_eq_true rfl) ?_
  show Aj γ mX9_delayOf d 0 0 Post 0 [(0, vA 123), (1, vI t), (2, vI s)] [] (mk h τ)
  refine a_aload_n (j := 0) dX9_delayOf_0 rfl rfl (Nat.le_of_ble_eq_true rfl) ?_
  refine a_iload_n (j := 1) dX9_delayOf_1 rfl rfl ?_
  refine a_iconst dX9_delayOf_2 ⟨by decide, by decide⟩ ?_
  refine b_callV (d' := d - 1) (mc' := 0) (ms' := 0) (mc1 := 0) (ms1 := 0) (st := []) (b := 123) [vI t, vI 0] dX9_delayOf_3 mwX9_of lkX9_107 (by decide) rfl rc_X9 rfl (Nat.le_of_ble_eq_true rfl) (by omega) rfl rfl (c_X9_of (v1 := v3) (by omega)  e3 (show 0 ≤ t ∧ t ≤ 11 ∧ 0 ≤ 0 ∧ 0 ≤ 10 by omega) ?_)
  show Aj γ mX9_delayOf d 0 0 Post 6 [(0, vA 123), (1, vI t), (2, vI s)] [vI v3] (mk h τ)
  rcases (show v3 = 1 ∨ v3 = 2 ∨ v3 = 3 ∨ v3 = 4 ∨ (¬ v3 = 1 ∧ ¬ v3 = 2 ∧ ¬ v3 = 3 ∧ ¬ v3 = 4) by omega) with c6_1 | c6_1 | c6_1 | c6_1 | c6_1
  · refine a_tblIn (tgt := 36) 0 dX9_delayOf_6 ⟨by omega, by omega⟩ rfl (by decide) ?_
    refine a_bipush dX9_delayOf_36 ⟨by decide, by decide, by decide⟩ ?_
    refine a_iload_n (j := 2) dX9_delayOf_38 rfl rfl ?_
    refine a_imul (z := (7 * s)) dX9_delayOf_39 (w_ok (by omega) (by omega)) ?_
    exact a_iret dX9_delayOf_40 rfl (post_v kQ (by unfold delF; (repeat' split) <;> omega))
  · refine a_tblIn (tgt := 41) 1 dX9_delayOf_6 ⟨by omega, by omega⟩ rfl (by decide) ?_
    refine a_iconst dX9_delayOf_41 ⟨by decide, by decide⟩ ?_
    exact a_iret dX9_delayOf_42 rfl (post_v kQ (by unfold delF; (repeat' split) <;> omega))
  · refine a_tblIn (tgt := 43) 2 dX9_delayOf_6 ⟨by omega, by omega⟩ rfl (by decide) ?_
    refine a_bipush dX9_delayOf_43 ⟨by decide, by decide, by decide⟩ ?_
    refine a_iload_n (j := 2) dX9_delayOf_45 rfl rfl ?_
    refine a_imul (z := (7 * s)) dX9_delayOf_46 (w_ok (by omega) (by omega)) ?_
    refine a_aload_n (j := 0) dX9_delayOf_47 rfl rfl (Nat.le_of_ble_eq_true rfl) ?_
    refine a_iload_n (j := 1) dX9_delayOf_48 rfl rfl ?_
    refine a_bipush dX9_delayOf_49 ⟨by decide, by decide, by decide⟩ ?_
    refine b_callV (d' := d - 1) (mc' := 0) (ms' := 0) (mc1 := 0) (ms1 := 0) (st := [vI (7 * s)]) (b := 123) [vI t, vI 6] dX9_delayOf_51 mwX9_of lkX9_107 (by decide) rfl rc_X9 rfl (Nat.le_of_ble_eq_true rfl) (by omega) rfl rfl (c_X9_of (v1 := v1) (by omega)  e1 (show 0 ≤ t ∧ t ≤ 11 ∧ 0 ≤ 6 ∧ 6 ≤ 10 by omega) ?_)
    show Aj γ mX9_delayOf d 0 0 Post 54 [(0, vA 123), (1, vI t), (2, vI s)] [vI v1, vI (7 * s)] (mk h τ)
    refine a_if_ge (tgt := 61) dX9_delayOf_54 (by decide) (fun c54_2 => ?_) (fun c54_2 => ?_)
    · refine a_aload_n (j := 0) dX9_delayOf_61 rfl rfl (Nat.le_of_ble_eq_true rfl) ?_
      refine b_getp (a := 123) (p := 130) dX9_delayOf_62 fwX9_28 (by decide) rfl (by decide) rfl rfl ?_
      refine a_iconst dX9_delayOf_65 ⟨by decide, by decide⟩ ?_
      refine a_aload_n (j := 0) dX9_delayOf_66 rfl rfl (Nat.le_of_ble_eq_true rfl) ?_
      refine a_iload_n (j := 1) dX9_delayOf_67 rfl rfl ?_
      refine a_bipush dX9_delayOf_68 ⟨by decide, by decide, by decide⟩ ?_
      refine b_callV (d' := d - 1) (mc' := 0) (ms' := 0) (mc1 := 0) (ms1 := 0) (st := [vI 4, vA 130, vI (7 * s)]) (b := 123) [vI t, vI 6] dX9_delayOf_70 mwX9_of lkX9_107 (by decide) rfl rc_X9 rfl (Nat.le_of_ble_eq_true rfl) (by omega) rfl rfl (c_X9_of (v1 := v1) (by omega)  e1 (show 0 ≤ t ∧ t ≤ 11 ∧ 0 ≤ 6 ∧ 6 ≤ 10 by omega) ?_)
      show Aj γ mX9_delayOf d 0 0 Post 73 [(0, vA 123), (1, vI t), (2, vI s)] [vI v1, vI 4, vA 130, vI (7 * s)] (mk h τ)
      refine a_imul (z := (4 * v1)) dX9_delayOf_73 (w_ok (by omega) (by omega)) ?_
      refine a_iload_n (j := 2) dX9_delayOf_74 rfl rfl ?_
      refine a_iadd (z := ((4 * v1) + s)) dX9_delayOf_75 (w_ok (by omega) (by omega)) ?_
      refine b_iaload (a := 130) (z := v2) (Int.toNat ((4 * v1) + s)) dX9_delayOf_76 (by decide) rfl (by omega) (by omega) (sp_nil rfl _) e2 (fun r76_3 => ?_)
      refine a_iconst dX9_delayOf_77 ⟨by decide, by decide⟩ ?_
      refine a_idiv (z := (v2 / 2)) dX9_delayOf_78 (by omega) (w_divN (by omega) (by omega) (by omega)) ?_
      refine a_iadd (z := ((7 * s) + (v2 / 2))) dX9_delayOf_79 (w_ok (by omega) (by omega)) ?_
      exact a_iret dX9_delayOf_80 rfl (post_v kQ (by unfold delF; (repeat' split) <;> omega))
    · refine a_iconst dX9_delayOf_57 ⟨by decide, by decide⟩ ?_
      refine a_goto (tgt := 79) dX9_delayOf_58 (by decide) ?_
      refine a_iadd (z := (7 * s) + 0) dX9_delayOf_79 (w_ok (by omega) (by omega)) ?_
      exact a_iret dX9_delayOf_80 rfl (post_v kQ (by unfold delF; (repeat' split) <;> omega))
  · refine a_tblIn (tgt := 41) 3 dX9_delayOf_6 ⟨by omega, by omega⟩ rfl (by decide) ?_
    refine a_iconst dX9_delayOf_41 ⟨by decide, by decide⟩ ?_
    exact a_iret dX9_delayOf_42 rfl (post_v kQ (by unfold delF; (repeat' split) <;> omega))
  · refine a_tblOut (tgt := 81) dX9_delayOf_6 (by omega) (by decide) ?_
    refine a_iconst dX9_delayOf_81 ⟨by decide, by decide⟩ ?_
    refine a_iload_n (j := 2) dX9_delayOf_82 rfl rfl ?_
    refine a_imul (z := (5 * s)) dX9_delayOf_83 (w_ok (by omega) (by omega)) ?_
    exact a_iret dX9_delayOf_84 rfl (post_v kQ (by unfold delF; (repeat' split) <;> omega))
set_option maxHeartbeats 8000000 in
theorem c_X9_meanAt {γ : GT} {d : Nat} {s m : Int} {h : Nat → Nat → Int} {τ : List AC} {Post : Option AV → List AC → Prop} (hd : 0 ≤ d) {v1 : Int} (e1 : h 124 2 = v1) {v2 : Int} (e2 : h 133 (Int.toNat ((1600 * s) + m)) = v2) (hs : 0 ≤ s ∧ s ≤ 5) (hm : 0 ≤ m ∧ m ≤ 5000) (kQ : Post (some (vI (if s = v1 then 100 * m else if m < 1600 then v2 else 288000))) (mk h τ)) : Cj γ mX9_meanAt d 0 0 [vA 123, vI s, vI m] (mk h τ) Post := by
  refine c_of (by decide) (Nat.le_of_ble_eq_true rfl) ?_
  show Aj γ mX9_meanAt d 0 0 Post 0 [(0, vA 123), (1, vI s), (2, vI m)] [] (mk h τ)
  refine a_iload_n (j := 1) dX9_meanAt_0 rfl rfl ?_
  refine a_aload_n (j := 0) dX9_meanAt_1 rfl rfl (Nat.le_of_ble_eq_true rfl) ?_
  refine b_getp (a := 123) (p := 124) dX9_meanAt_2 fwX9_9 (by decide) rfl (by decide) rfl rfl ?_
  refine a_iconst dX9_meanAt_5 ⟨by decide, by decide⟩ ?_
  refine b_iaload (a := 124) (z := v1) 2 dX9_meanAt_6 (by decide) rfl rfl (by decide) rfl e1 (fun r6_1 => ?_)
  refine a_icmp_ne (tgt := 15) dX9_meanAt_7 (by decide) (fun c7_2 => ?_) (fun c7_2 => ?_)
  · refine a_iload_n (j := 2) dX9_meanAt_15 rfl rfl ?_
    refine a_sipush dX9_meanAt_16 ⟨by decide, by decide, by decide⟩ ?_
    refine a_icmp_ge (tgt := 37) dX9_meanAt_19 (by decide) (fun c19_3 => ?_) (fun c19_3 => ?_)
    · refine a_ldc (z := 288000) dX9_meanAt_37 kwX9_201 ⟨by decide, by decide, by decide⟩ ?_
      exact a_iret dX9_meanAt_39 rfl (post_v kQ (by (repeat' split) <;> omega))
    · refine a_aload_n (j := 0) dX9_meanAt_22 rfl rfl (Nat.le_of_ble_eq_true rfl) ?_
      refine b_getp (a := 123) (p := 133) dX9_meanAt_23 fwX9_38 (by decide) rfl (by decide) rfl rfl ?_
      refine a_sipush dX9_meanAt_26 ⟨by decide, by decide, by decide⟩ ?_
      refine a_iload_n (j := 1) dX9_meanAt_29 rfl rfl ?_
      refine a_imul (z := (1600 * s)) dX9_meanAt_30 (w_ok (by omega) (by omega)) ?_
      refine a_iload_n (j := 2) dX9_meanAt_31 rfl rfl ?_
      refine a_iadd (z := ((1600 * s) + m)) dX9_meanAt_32 (w_ok (by omega) (by omega)) ?_
      refine b_iaload (a := 133) (z := v2) (Int.toNat ((1600 * s) + m)) dX9_meanAt_33 (by decide) rfl (by omega) (by omega) (sp_nil rfl _) e2 (fun r33_4 => ?_)
      refine a_goto (tgt := 39) dX9_meanAt_34 (by decide) ?_
      exact a_iret dX9_meanAt_39 rfl (post_v kQ (by (repeat' split) <;> omega))
  · refine a_bipush dX9_meanAt_10 ⟨by decide, by decide, by decide⟩ ?_
    refine a_iload_n (j := 2) dX9_meanAt_12 rfl rfl ?_
    refine a_imul (z := (100 * m)) dX9_meanAt_13 (w_ok (by omega) (by omega)) ?_
    exact a_iret dX9_meanAt_14 rfl (post_v kQ (by (repeat' split) <;> omega))
set_option maxHeartbeats 8000000 in
theorem c_X9_takenAt {γ : GT} {d : Nat} {s m : Int} {h : Nat → Nat → Int} {τ : List AC} {Post : Option AV → List AC → Prop} (hd : 0 ≤ d) {v1 : Int} (e1 : h 124 2 = v1) {v2 : Int} (e2 : h 134 (Int.toNat ((1600 * s) + m)) = v2) (hs : 0 ≤ s ∧ s ≤ 5) (hm : 0 ≤ m ∧ m ≤ 5000) (kQ : Post (some (vI (if s = v1 ∨ 1600 ≤ m then -1 else v2))) (mk h τ)) : Cj γ mX9_takenAt d 0 0 [vA 123, vI s, vI m] (mk h τ) Post := by
  refine c_of (by decide) (Nat.le_of_ble_eq_true rfl) ?_
  show Aj γ mX9_takenAt d 0 0 Post 0 [(0, vA 123), (1, vI s), (2, vI m)] [] (mk h τ)
  refine a_iload_n (j := 1) dX9_takenAt_0 rfl rfl ?_
  refine a_aload_n (j := 0) dX9_takenAt_1 rfl rfl (Nat.le_of_ble_eq_true rfl) ?_
  refine b_getp (a := 123) (p := 124) dX9_takenAt_2 fwX9_9 (by decide) rfl (by decide) rfl rfl ?_
  refine a_iconst dX9_takenAt_5 ⟨by decide, by decide⟩ ?_
  refine b_iaload (a := 124) (z := v1) 2 dX9_takenAt_6 (by decide) rfl rfl (by decide) rfl e1 (fun r6_1 => ?_)
  refine a_icmp_eq (tgt := 17) dX9_takenAt_7 (by decide) (fun c7_2 => ?_) (fun c7_2 => ?_)
  · refine a_iconst dX9_takenAt_17 ⟨by decide, by decide⟩ ?_
    refine a_goto (tgt := 33) dX9_takenAt_18 (by decide) ?_
    exact a_iret dX9_takenAt_33 rfl (post_v kQ (by (repeat' split) <;> omega))
  · refine a_iload_n (j := 2) dX9_takenAt_10 rfl rfl ?_
    refine a_sipush dX9_takenAt_11 ⟨by decide, by decide, by decide⟩ ?_
    refine a_icmp_lt (tgt := 21) dX9_takenAt_14 (by decide) (fun c14_3 => ?_) (fun c14_3 => ?_)
    · refine a_aload_n (j := 0) dX9_takenAt_21 rfl rfl (Nat.le_of_ble_eq_true rfl) ?_
      refine b_getp (a := 123) (p := 134) dX9_takenAt_22 fwX9_41 (by decide) rfl (by decide) rfl rfl ?_
      refine a_sipush dX9_takenAt_25 ⟨by decide, by decide, by decide⟩ ?_
      refine a_iload_n (j := 1) dX9_takenAt_28 rfl rfl ?_
      refine a_imul (z := (1600 * s)) dX9_takenAt_29 (w_ok (by omega) (by omega)) ?_
      refine a_iload_n (j := 2) dX9_takenAt_30 rfl rfl ?_
      refine a_iadd (z := ((1600 * s) + m)) dX9_takenAt_31 (w_ok (by omega) (by omega)) ?_
      refine b_iaload (a := 134) (z := v2) (Int.toNat ((1600 * s) + m)) dX9_takenAt_32 (by decide) rfl (by omega) (by omega) (sp_nil rfl _) e2 (fun r32_4 => ?_)
      exact a_iret dX9_takenAt_33 rfl (post_v kQ (by (repeat' split) <;> omega))
    · refine a_iconst dX9_takenAt_17 ⟨by decide, by decide⟩ ?_
      refine a_goto (tgt := 33) dX9_takenAt_18 (by decide) ?_
      exact a_iret dX9_takenAt_33 rfl (post_v kQ (by (repeat' split) <;> omega))
set_option maxHeartbeats 8000000 in
theorem c_X9_sureAt {γ : GT} {d : Nat} {s m : Int} {h : Nat → Nat → Int} {τ : List AC} {Post : Option AV → List AC → Prop} (hd : 0 ≤ d) {v1 : Int} (e1 : h 124 2 = v1) {v2 : Int} (e2 : h 124 3 = v2) {v3 : Int} (e3 : h 135 (Int.toNat ((1600 * s) + m)) = v3) (hs : 0 ≤ s ∧ s ≤ 5) (hm : 0 ≤ m ∧ m ≤ 5000) (kQ : Post (some (vI (if s = v1 then (if m ≤ v2 then 10000 else 0) else if m < 1600 then v3 else 0))) (mk h τ)) : Cj γ mX9_sureAt d 0 0 [vA 123, vI s, vI m] (mk h τ) Post := by
  refine c_of (by decide) (Nat.le_of_ble_eq_true rfl) ?_
  show Aj γ mX9_sureAt d 0 0 Post 0 [(0, vA 123), (1, vI s), (2, vI m)] [] (mk h τ)
  refine a_iload_n (j := 1) dX9_sureAt_0 rfl rfl ?_
  refine a_aload_n (j := 0) dX9_sureAt_1 rfl rfl (Nat.le_of_ble_eq_true rfl) ?_
  refine b_getp (a := 123) (p := 124) dX9_sureAt_2 fwX9_9 (by decide) rfl (by decide) rfl rfl ?_
  refine a_iconst dX9_sureAt_5 ⟨by decide, by decide⟩ ?_
  refine b_iaload (a := 124) (z := v1) 2 dX9_sureAt_6 (by decide) rfl rfl (by decide) rfl e1 (fun r6_1 => ?_)
  refine a_icmp_ne (tgt := 28) dX9_sureAt_7 (by decide) (fun c7_2 => ?_) (fun c7_2 => ?_)
  · refine a_iload_n (j := 2) dX9_sureAt_28 rfl rfl ?_
    refine a_sipush dX9_sureAt_29 ⟨by decide, by decide, by decide⟩ ?_
    refine a_icmp_ge (tgt := 50) dX9_sureAt_32 (by decide) (fun c32_3 => ?_) (fun c32_3 => ?_)
    · refine a_iconst dX9_sureAt_50 ⟨by decide, by decide⟩ ?_
      exact a_iret dX9_sureAt_51 rfl (post_v kQ (by (repeat' split) <;> omega))
    · refine a_aload_n (j := 0) dX9_sureAt_35 rfl rfl (Nat.le_of_ble_eq_true rfl) ?_
      refine b_getp (a := 123) (p := 135) dX9_sureAt_36 fwX9_44 (by decide) rfl (by decide) rfl rfl ?_
      refine a_sipush dX9_sureAt_39 ⟨by decide, by decide, by decide⟩ ?_
      refine a_iload_n (j := 1) dX9_sureAt_42 rfl rfl ?_
      refine a_imul (z := (1600 * s)) dX9_sureAt_43 (w_ok (by omega) (by omega)) ?_
      refine a_iload_n (j := 2) dX9_sureAt_44 rfl rfl ?_
      refine a_iadd (z := ((1600 * s) + m)) dX9_sureAt_45 (w_ok (by omega) (by omega)) ?_
      refine b_iaload (a := 135) (z := v3) (Int.toNat ((1600 * s) + m)) dX9_sureAt_46 (by decide) rfl (by omega) (by omega) (sp_nil rfl _) e3 (fun r46_4 => ?_)
      refine a_goto (tgt := 51) dX9_sureAt_47 (by decide) ?_
      exact a_iret dX9_sureAt_51 rfl (post_v kQ (by (repeat' split) <;> omega))
  · refine a_iload_n (j := 2) dX9_sureAt_10 rfl rfl ?_
    refine a_aload_n (j := 0) dX9_sureAt_11 rfl rfl (Nat.le_of_ble_eq_true rfl) ?_
    refine b_getp (a := 123) (p := 124) dX9_sureAt_12 fwX9_9 (by decide) rfl (by decide) rfl rfl ?_
    refine a_iconst dX9_sureAt_15 ⟨by decide, by decide⟩ ?_
    refine b_iaload (a := 124) (z := v2) 3 dX9_sureAt_16 (by decide) rfl rfl (by decide) rfl e2 (fun r16_5 => ?_)
    refine a_icmp_gt (tgt := 26) dX9_sureAt_17 (by decide) (fun c17_6 => ?_) (fun c17_6 => ?_)
    · refine a_iconst dX9_sureAt_26 ⟨by decide, by decide⟩ ?_
      exact a_iret dX9_sureAt_27 rfl (post_v kQ (by (repeat' split) <;> omega))
    · refine a_sipush dX9_sureAt_20 ⟨by decide, by decide, by decide⟩ ?_
      refine a_goto (tgt := 27) dX9_sureAt_23 (by decide) ?_
      exact a_iret dX9_sureAt_27 rfl (post_v kQ (by (repeat' split) <;> omega))
set_option maxHeartbeats 8000000 in
theorem c_X9_cheapAt {γ : GT} {d : Nat} {s m : Int} {h : Nat → Nat → Int} {τ : List AC} {Post : Option AV → List AC → Prop} (hd : 0 ≤ d) {v1 : Int} (e1 : h 124 2 = v1) {v2 : Int} (e2 : h 124 3 = v2) {v3 : Int} (e3 : h 136 (Int.toNat ((1600 * s) + m)) = v3) (hs : 0 ≤ s ∧ s ≤ 5) (hm : 0 ≤ m ∧ m ≤ 5000) (kQ : Post (some (vI (if s = v1 then (if m ≤ v2 then 0 else 1000000000) else if m < 1600 then v3 else 1000000000))) (mk h τ)) : Cj γ mX9_cheapAt d 0 0 [vA 123, vI s, vI m] (mk h τ) Post := by
  refine c_of (by decide) (Nat.le_of_ble_eq_true rfl) ?_
  show Aj γ mX9_cheapAt d 0 0 Post 0 [(0, vA 123), (1, vI s), (2, vI m)] [] (mk h τ)
  refine a_iload_n (j := 1) dX9_cheapAt_0 rfl rfl ?_
  refine a_aload_n (j := 0) dX9_cheapAt_1 rfl rfl (Nat.le_of_ble_eq_true rfl) ?_
  refine b_getp (a := 123) (p := 124) dX9_cheapAt_2 fwX9_9 (by decide) rfl (by decide) rfl rfl ?_
  refine a_iconst dX9_cheapAt_5 ⟨by decide, by decide⟩ ?_
  refine b_iaload (a := 124) (z := v1) 2 dX9_cheapAt_6 (by decide) rfl rfl (by decide) rfl e1 (fun r6_1 => ?_)
  refine a_icmp_ne (tgt := 27) dX9_cheapAt_7 (by decide) (fun c7_2 => ?_) (fun c7_2 => ?_)
  · refine a_iload_n (j := 2) dX9_cheapAt_27 rfl rfl ?_
    refine a_sipush dX9_cheapAt_28 ⟨by decide, by decide, by decide⟩ ?_
    refine a_icmp_ge (tgt := 49) dX9_cheapAt_31 (by decide) (fun c31_3 => ?_) (fun c31_3 => ?_)
    · refine a_ldc (z := 1000000000) dX9_cheapAt_49 kwX9_202 ⟨by decide, by decide, by decide⟩ ?_
      exact a_iret dX9_cheapAt_51 rfl (post_v kQ (by (repeat' split) <;> omega))
    · refine a_aload_n (j := 0) dX9_cheapAt_34 rfl rfl (Nat.le_of_ble_eq_true rfl) ?_
      refine b_getp (a := 123) (p := 136) dX9_cheapAt_35 fwX9_47 (by decide) rfl (by decide) rfl rfl ?_
      refine a_sipush dX9_cheapAt_38 ⟨by decide, by decide, by decide⟩ ?_
      refine a_iload_n (j := 1) dX9_cheapAt_41 rfl rfl ?_
      refine a_imul (z := (1600 * s)) dX9_cheapAt_42 (w_ok (by omega) (by omega)) ?_
      refine a_iload_n (j := 2) dX9_cheapAt_43 rfl rfl ?_
      refine a_iadd (z := ((1600 * s) + m)) dX9_cheapAt_44 (w_ok (by omega) (by omega)) ?_
      refine b_iaload (a := 136) (z := v3) (Int.toNat ((1600 * s) + m)) dX9_cheapAt_45 (by decide) rfl (by omega) (by omega) (sp_nil rfl _) e3 (fun r45_4 => ?_)
      refine a_goto (tgt := 51) dX9_cheapAt_46 (by decide) ?_
      exact a_iret dX9_cheapAt_51 rfl (post_v kQ (by (repeat' split) <;> omega))
  · refine a_iload_n (j := 2) dX9_cheapAt_10 rfl rfl ?_
    refine a_aload_n (j := 0) dX9_cheapAt_11 rfl rfl (Nat.le_of_ble_eq_true rfl) ?_
    refine b_getp (a := 123) (p := 124) dX9_cheapAt_12 fwX9_9 (by decide) rfl (by decide) rfl rfl ?_
    refine a_iconst dX9_cheapAt_15 ⟨by decide, by decide⟩ ?_
    refine b_iaload (a := 124) (z := v2) 3 dX9_cheapAt_16 (by decide) rfl rfl (by decide) rfl e2 (fun r16_5 => ?_)
    refine a_icmp_gt (tgt := 24) dX9_cheapAt_17 (by decide) (fun c17_6 => ?_) (fun c17_6 => ?_)
    · refine a_ldc (z := 1000000000) dX9_cheapAt_24 kwX9_202 ⟨by decide, by decide, by decide⟩ ?_
      exact a_iret dX9_cheapAt_26 rfl (post_v kQ (by (repeat' split) <;> omega))
    · refine a_iconst dX9_cheapAt_20 ⟨by decide, by decide⟩ ?_
      refine a_goto (tgt := 26) dX9_cheapAt_21 (by decide) ?_
      exact a_iret dX9_cheapAt_26 rfl (post_v kQ (by (repeat' split) <;> omega))
set_option maxHeartbeats 8000000 in
theorem c_X9_nameOf {γ : GT} {d : Nat} {g : Int} {h : Nat → Nat → Int} {τ : List AC} {Post : Option AV → List AC → Prop} (hd : 0 ≤ d) {v1 : Int} (e1 : h 123 23 = v1) (kQ : Post (some (vI (if v1 = 0 then (if g = 107 then 0 else if g = 110 then 1 else if g = 100 then 2 else -1) else if v1 = 1 then (if g = 110 then 0 else if g = 100 then 1 else -1) else (if g = 115 then 0 else if g = 119 then 1 else if g = 100 then 2 else -1)))) (mk h τ)) : Cj γ mX9_nameOf d 0 0 [vA 123, vI g] (mk h τ) Post := by
  refine c_of (by decide) (Nat.le_of_ble_eq_true rfl) ?_
  show Aj γ mX9_nameOf d 0 0 Post 0 [(0, vA 123), (1, vI g)] [] (mk h τ)
  refine a_aload_n (j := 0) dX9_nameOf_0 rfl rfl (Nat.le_of_ble_eq_true rfl) ?_
  refine b_get (a := 123) (z := v1) (t := 0) dX9_nameOf_1 fwX9_253 (by decide) rfl (by decide) rfl rfl e1 ?_
  rcases (show v1 = 0 ∨ v1 = 1 ∨ (¬ v1 = 0 ∧ ¬ v1 = 1) by omega) with c4_1 | c4_1 | c4_1
  · refine a_lookup (tgt := 32) (off := 28) dX9_nameOf_4 (by decide) (by rw [c4_1]; decide) (by decide) ?_
    refine a_iload_n (j := 1) dX9_nameOf_32 rfl rfl ?_
    refine a_bipush dX9_nameOf_33 ⟨by decide, by decide, by decide⟩ ?_
    refine a_icmp_ne (tgt := 42) dX9_nameOf_35 (by decide) (fun c35_2 => ?_) (fun c35_2 => ?_)
    · refine a_iload_n (j := 1) dX9_nameOf_42 rfl rfl ?_
      refine a_bipush dX9_nameOf_43 ⟨by decide, by decide, by decide⟩ ?_
      refine a_icmp_ne (tgt := 52) dX9_nameOf_45 (by decide) (fun c45_3 => ?_) (fun c45_3 => ?_)
      · refine a_iload_n (j := 1) dX9_nameOf_52 rfl rfl ?_
        refine a_bipush dX9_nameOf_53 ⟨by decide, by decide, by decide⟩ ?_
        refine a_icmp_ne (tgt := 62) dX9_nameOf_55 (by decide) (fun c55_4 => ?_) (fun c55_4 => ?_)
        · refine a_iconst dX9_nameOf_62 ⟨by decide, by decide⟩ ?_
          exact a_iret dX9_nameOf_63 rfl (post_v kQ (by (repeat' split) <;> omega))
        · refine a_iconst dX9_nameOf_58 ⟨by decide, by decide⟩ ?_
          refine a_goto (tgt := 63) dX9_nameOf_59 (by decide) ?_
          exact a_iret dX9_nameOf_63 rfl (post_v kQ (by (repeat' split) <;> omega))
      · refine a_iconst dX9_nameOf_48 ⟨by decide, by decide⟩ ?_
        refine a_goto (tgt := 63) dX9_nameOf_49 (by decide) ?_
        exact a_iret dX9_nameOf_63 rfl (post_v kQ (by (repeat' split) <;> omega))
    · refine a_iconst dX9_nameOf_38 ⟨by decide, by decide⟩ ?_
      refine a_goto (tgt := 63) dX9_nameOf_39 (by decide) ?_
      exact a_iret dX9_nameOf_63 rfl (post_v kQ (by (repeat' split) <;> omega))
  · refine a_lookup (tgt := 64) (off := 60) dX9_nameOf_4 (by decide) (by rw [c4_1]; decide) (by decide) ?_
    refine a_iload_n (j := 1) dX9_nameOf_64 rfl rfl ?_
    refine a_bipush dX9_nameOf_65 ⟨by decide, by decide, by decide⟩ ?_
    refine a_icmp_ne (tgt := 74) dX9_nameOf_67 (by decide) (fun c67_5 => ?_) (fun c67_5 => ?_)
    · refine a_iload_n (j := 1) dX9_nameOf_74 rfl rfl ?_
      refine a_bipush dX9_nameOf_75 ⟨by decide, by decide, by decide⟩ ?_
      refine a_icmp_ne (tgt := 84) dX9_nameOf_77 (by decide) (fun c77_6 => ?_) (fun c77_6 => ?_)
      · refine a_iconst dX9_nameOf_84 ⟨by decide, by decide⟩ ?_
        exact a_iret dX9_nameOf_85 rfl (post_v kQ (by (repeat' split) <;> omega))
      · refine a_iconst dX9_nameOf_80 ⟨by decide, by decide⟩ ?_
        refine a_goto (tgt := 85) dX9_nameOf_81 (by decide) ?_
        exact a_iret dX9_nameOf_85 rfl (post_v kQ (by (repeat' split) <;> omega))
    · refine a_iconst dX9_nameOf_70 ⟨by decide, by decide⟩ ?_
      refine a_goto (tgt := 85) dX9_nameOf_71 (by decide) ?_
      exact a_iret dX9_nameOf_85 rfl (post_v kQ (by (repeat' split) <;> omega))
  · refine a_lookup (tgt := 86) (off := 82) dX9_nameOf_4 (by decide) (by simp only [Op.lookupswitch.offset]; (repeat' split) <;> omega) (by decide) ?_
    refine a_iload_n (j := 1) dX9_nameOf_86 rfl rfl ?_
    refine a_bipush dX9_nameOf_87 ⟨by decide, by decide, by decide⟩ ?_
    refine a_icmp_ne (tgt := 96) dX9_nameOf_89 (by decide) (fun c89_7 => ?_) (fun c89_7 => ?_)
    · refine a_iload_n (j := 1) dX9_nameOf_96 rfl rfl ?_
      refine a_bipush dX9_nameOf_97 ⟨by decide, by decide, by decide⟩ ?_
      refine a_icmp_ne (tgt := 106) dX9_nameOf_99 (by decide) (fun c99_8 => ?_) (fun c99_8 => ?_)
      · refine a_iload_n (j := 1) dX9_nameOf_106 rfl rfl ?_
        refine a_bipush dX9_nameOf_107 ⟨by decide, by decide, by decide⟩ ?_
        refine a_icmp_ne (tgt := 116) dX9_nameOf_109 (by decide) (fun c109_9 => ?_) (fun c109_9 => ?_)
        · refine a_iconst dX9_nameOf_116 ⟨by decide, by decide⟩ ?_
          exact a_iret dX9_nameOf_117 rfl (post_v kQ (by (repeat' split) <;> omega))
        · refine a_iconst dX9_nameOf_112 ⟨by decide, by decide⟩ ?_
          refine a_goto (tgt := 117) dX9_nameOf_113 (by decide) ?_
          exact a_iret dX9_nameOf_117 rfl (post_v kQ (by (repeat' split) <;> omega))
      · refine a_iconst dX9_nameOf_102 ⟨by decide, by decide⟩ ?_
        refine a_goto (tgt := 117) dX9_nameOf_103 (by decide) ?_
        exact a_iret dX9_nameOf_117 rfl (post_v kQ (by (repeat' split) <;> omega))
    · refine a_iconst dX9_nameOf_92 ⟨by decide, by decide⟩ ?_
      refine a_goto (tgt := 117) dX9_nameOf_93 (by decide) ?_
      exact a_iret dX9_nameOf_117 rfl (post_v kQ (by (repeat' split) <;> omega))
def sgF (g : Int) : Int := if g = 124 then -1 else if g = 38 then -2 else if g = 60 then -3 else if g = 61 then -4 else if g = 62 then -5 else if g = 43 then -6 else if g = 45 then -7 else if g = 42 then -8 else if g = 47 then -9 else 0
set_option maxHeartbeats 8000000 in
theorem c_X9_signHere {γ : GT} {d : Nat}  {h : Nat → Nat → Int} {τ : List AC} {Post : Option AV → List AC → Prop} (hd : 0 ≤ d) {v1 : Int} (e1 : h 123 20 = v1) {v2 : Int} (e2 : h 123 21 = v2) (kQ : Post (some (vI (if v1 = 3 then sgF v2 else 0))) (mk h τ)) : Cj γ mX9_signHere d 0 0 [vA 123] (mk h τ) Post := by
  refine c_of (by decide) (Nat.le_of_ble_eq_true rfl) ?_
  show Aj γ mX9_signHere d 0 0 Post 0 [(0, vA 123)] [] (mk h τ)
  refine a_aload_n (j := 0) dX9_signHere_0 rfl rfl (Nat.le_of_ble_eq_true rfl) ?_
  refine b_get (a := 123) (z := v1) (t := 0) dX9_signHere_1 fwX9_241 (by decide) rfl (by decide) rfl rfl e1 ?_
  refine a_iconst dX9_signHere_4 ⟨by decide, by decide⟩ ?_
  refine a_icmp_eq (tgt := 10) dX9_signHere_5 (by decide) (fun c5_1 => ?_) (fun c5_1 => ?_)
  · refine a_aload_n (j := 0) dX9_signHere_10 rfl rfl (Nat.le_of_ble_eq_true rfl) ?_
    refine b_get (a := 123) (z := v2) (t := 0) dX9_signHere_11 fwX9_247 (by decide) rfl (by decide) rfl rfl e2 ?_
    rcases (show v2 = 38 ∨ v2 = 42 ∨ v2 = 43 ∨ v2 = 45 ∨ v2 = 47 ∨ v2 = 60 ∨ v2 = 61 ∨ v2 = 62 ∨ v2 = 124 ∨ (¬ v2 = 38 ∧ ¬ v2 = 42 ∧ ¬ v2 = 43 ∧ ¬ v2 = 45 ∧ ¬ v2 = 47 ∧ ¬ v2 = 60 ∧ ¬ v2 = 61 ∧ ¬ v2 = 62 ∧ ¬ v2 = 124) by omega) with c14_2 | c14_2 | c14_2 | c14_2 | c14_2 | c14_2 | c14_2 | c14_2 | c14_2 | c14_2
    · refine a_lookup (tgt := 98) (off := 84) dX9_signHere_14 (by decide) (by rw [c14_2]; decide) (by decide) ?_
      refine a_bipush dX9_signHere_98 ⟨by decide, by decide, by decide⟩ ?_
      exact a_iret dX9_signHere_100 rfl (post_v kQ (by unfold sgF; (repeat' split) <;> omega))
    · refine a_lookup (tgt := 116) (off := 102) dX9_signHere_14 (by decide) (by rw [c14_2]; decide) (by decide) ?_
      refine a_bipush dX9_signHere_116 ⟨by decide, by decide, by decide⟩ ?_
      exact a_iret dX9_signHere_118 rfl (post_v kQ (by unfold sgF; (repeat' split) <;> omega))
    · refine a_lookup (tgt := 110) (off := 96) dX9_signHere_14 (by decide) (by rw [c14_2]; decide) (by decide) ?_
      refine a_bipush dX9_signHere_110 ⟨by decide, by decide, by decide⟩ ?_
      exact a_iret dX9_signHere_112 rfl (post_v kQ (by unfold sgF; (repeat' split) <;> omega))
    · refine a_lookup (tgt := 113) (off := 99) dX9_signHere_14 (by decide) (by rw [c14_2]; decide) (by decide) ?_
      refine a_bipush dX9_signHere_113 ⟨by decide, by decide, by decide⟩ ?_
      exact a_iret dX9_signHere_115 rfl (post_v kQ (by unfold sgF; (repeat' split) <;> omega))
    · refine a_lookup (tgt := 119) (off := 105) dX9_signHere_14 (by decide) (by rw [c14_2]; decide) (by decide) ?_
      refine a_bipush dX9_signHere_119 ⟨by decide, by decide, by decide⟩ ?_
      exact a_iret dX9_signHere_121 rfl (post_v kQ (by unfold sgF; (repeat' split) <;> omega))
    · refine a_lookup (tgt := 101) (off := 87) dX9_signHere_14 (by decide) (by rw [c14_2]; decide) (by decide) ?_
      refine a_bipush dX9_signHere_101 ⟨by decide, by decide, by decide⟩ ?_
      exact a_iret dX9_signHere_103 rfl (post_v kQ (by unfold sgF; (repeat' split) <;> omega))
    · refine a_lookup (tgt := 104) (off := 90) dX9_signHere_14 (by decide) (by rw [c14_2]; decide) (by decide) ?_
      refine a_bipush dX9_signHere_104 ⟨by decide, by decide, by decide⟩ ?_
      exact a_iret dX9_signHere_106 rfl (post_v kQ (by unfold sgF; (repeat' split) <;> omega))
    · refine a_lookup (tgt := 107) (off := 93) dX9_signHere_14 (by decide) (by rw [c14_2]; decide) (by decide) ?_
      refine a_bipush dX9_signHere_107 ⟨by decide, by decide, by decide⟩ ?_
      exact a_iret dX9_signHere_109 rfl (post_v kQ (by unfold sgF; (repeat' split) <;> omega))
    · refine a_lookup (tgt := 96) (off := 82) dX9_signHere_14 (by decide) (by rw [c14_2]; decide) (by decide) ?_
      refine a_iconst dX9_signHere_96 ⟨by decide, by decide⟩ ?_
      exact a_iret dX9_signHere_97 rfl (post_v kQ (by unfold sgF; (repeat' split) <;> omega))
    · refine a_lookup (tgt := 122) (off := 108) dX9_signHere_14 (by decide) (by simp only [Op.lookupswitch.offset]; (repeat' split) <;> omega) (by decide) ?_
      refine a_iconst dX9_signHere_122 ⟨by decide, by decide⟩ ?_
      exact a_iret dX9_signHere_123 rfl (post_v kQ (by unfold sgF; (repeat' split) <;> omega))
  · refine a_iconst dX9_signHere_8 ⟨by decide, by decide⟩ ?_
    exact a_iret dX9_signHere_9 rfl (post_v kQ (by unfold sgF; (repeat' split) <;> omega))
def twoF (g a b : Int) : Int := if g = -1 then (if ¬ a = 0 ∨ ¬ b = 0 then 1 else 0) else if g = -2 then (if ¬ a = 0 ∧ ¬ b = 0 then 1 else 0) else if g = -3 then (if a < b then 1 else 0) else if g = -4 then (if a = b then 1 else 0) else if g = -5 then (if b < a then 1 else 0) else if g = -6 then w32 (a + b) else if g = -7 then w32 (a - b) else if g = -8 then w32 (a * b) else if b = 0 then 0 else w32 (Int.tdiv a b)
set_option maxHeartbeats 8000000 in
theorem c_X9_two {γ : GT} {d : Nat} {g a b : Int} {h : Nat → Nat → Int} {τ : List AC} {Post : Option AV → List AC → Prop} (hd : 0 ≤ d) (kQ : Post (some (vI (twoF g a b))) (mk h τ)) : Cj γ mX9_two d 0 0 [vI g, vI a, vI b] (mk h τ) Post := by
  refine c_of (by decide) (Nat.le_of_ble_eq_true rfl) ?_
  show Aj γ mX9_two d 0 0 Post 0 [(0, vI g), (1, vI a), (2, vI b)] [] (mk h τ)
  refine a_iload_n (j := 0) dX9_two_0 rfl rfl ?_
  rcases (show g = (-8) ∨ g = (-7) ∨ g = (-6) ∨ g = (-5) ∨ g = (-4) ∨ g = (-3) ∨ g = (-2) ∨ g = (-1) ∨ (¬ g = (-8) ∧ ¬ g = (-7) ∧ ¬ g = (-6) ∧ ¬ g = (-5) ∧ ¬ g = (-4) ∧ ¬ g = (-3) ∧ ¬ g = (-2) ∧ ¬ g = (-1)) by omega) with c1_1 | c1_1 | c1_1 | c1_1 | c1_1 | c1_1 | c1_1 | c1_1 | c1_1
  · refine a_tblIn (tgt := 117) 0 dX9_two_1 ⟨by omega, by omega⟩ rfl (by decide) ?_
    refine a_iload_n (j := 1) dX9_two_117 rfl rfl ?_
    refine a_iload_n (j := 2) dX9_two_118 rfl rfl ?_
    refine a_imul (z := (w32 (a * b))) dX9_two_119 rfl ?_
    exact a_iret dX9_two_120 rfl (post_v kQ (by unfold twoF; (repeat' split) <;> omega))
  · refine a_tblIn (tgt := 113) 1 dX9_two_1 ⟨by omega, by omega⟩ rfl (by decide) ?_
    refine a_iload_n (j := 1) dX9_two_113 rfl rfl ?_
    refine a_iload_n (j := 2) dX9_two_114 rfl rfl ?_
    refine a_isub (z := (w32 (a - b))) dX9_two_115 rfl ?_
    exact a_iret dX9_two_116 rfl (post_v kQ (by unfold twoF; (repeat' split) <;> omega))
  · refine a_tblIn (tgt := 109) 2 dX9_two_1 ⟨by omega, by omega⟩ rfl (by decide) ?_
    refine a_iload_n (j := 1) dX9_two_109 rfl rfl ?_
    refine a_iload_n (j := 2) dX9_two_110 rfl rfl ?_
    refine a_iadd (z := (w32 (a + b))) dX9_two_111 rfl ?_
    exact a_iret dX9_two_112 rfl (post_v kQ (by unfold twoF; (repeat' split) <;> omega))
  · refine a_tblIn (tgt := 98) 3 dX9_two_1 ⟨by omega, by omega⟩ rfl (by decide) ?_
    refine a_iload_n (j := 1) dX9_two_98 rfl rfl ?_
    refine a_iload_n (j := 2) dX9_two_99 rfl rfl ?_
    refine a_icmp_le (tgt := 107) dX9_two_100 (by decide) (fun c100_2 => ?_) (fun c100_2 => ?_)
    · refine a_iconst dX9_two_107 ⟨by decide, by decide⟩ ?_
      exact a_iret dX9_two_108 rfl (post_v kQ (by unfold twoF; (repeat' split) <;> omega))
    · refine a_iconst dX9_two_103 ⟨by decide, by decide⟩ ?_
      refine a_goto (tgt := 108) dX9_two_104 (by decide) ?_
      exact a_iret dX9_two_108 rfl (post_v kQ (by unfold twoF; (repeat' split) <;> omega))
  · refine a_tblIn (tgt := 87) 4 dX9_two_1 ⟨by omega, by omega⟩ rfl (by decide) ?_
    refine a_iload_n (j := 1) dX9_two_87 rfl rfl ?_
    refine a_iload_n (j := 2) dX9_two_88 rfl rfl ?_
    refine a_icmp_ne (tgt := 96) dX9_two_89 (by decide) (fun c89_3 => ?_) (fun c89_3 => ?_)
    · refine a_iconst dX9_two_96 ⟨by decide, by decide⟩ ?_
      exact a_iret dX9_two_97 rfl (post_v kQ (by unfold twoF; (repeat' split) <;> omega))
    · refine a_iconst dX9_two_92 ⟨by decide, by decide⟩ ?_
      refine a_goto (tgt := 97) dX9_two_93 (by decide) ?_
      exact a_iret dX9_two_97 rfl (post_v kQ (by unfold twoF; (repeat' split) <;> omega))
  · refine a_tblIn (tgt := 76) 5 dX9_two_1 ⟨by omega, by omega⟩ rfl (by decide) ?_
    refine a_iload_n (j := 1) dX9_two_76 rfl rfl ?_
    refine a_iload_n (j := 2) dX9_two_77 rfl rfl ?_
    refine a_icmp_ge (tgt := 85) dX9_two_78 (by decide) (fun c78_4 => ?_) (fun c78_4 => ?_)
    · refine a_iconst dX9_two_85 ⟨by decide, by decide⟩ ?_
      exact a_iret dX9_two_86 rfl (post_v kQ (by unfold twoF; (repeat' split) <;> omega))
    · refine a_iconst dX9_two_81 ⟨by decide, by decide⟩ ?_
      refine a_goto (tgt := 86) dX9_two_82 (by decide) ?_
      exact a_iret dX9_two_86 rfl (post_v kQ (by unfold twoF; (repeat' split) <;> omega))
  · refine a_tblIn (tgt := 62) 6 dX9_two_1 ⟨by omega, by omega⟩ rfl (by decide) ?_
    refine a_iload_n (j := 1) dX9_two_62 rfl rfl ?_
    refine a_if_eq (tgt := 74) dX9_two_63 (by decide) (fun c63_5 => ?_) (fun c63_5 => ?_)
    · refine a_iconst dX9_two_74 ⟨by decide, by decide⟩ ?_
      exact a_iret dX9_two_75 rfl (post_v kQ (by unfold twoF; (repeat' split) <;> omega))
    · refine a_iload_n (j := 2) dX9_two_66 rfl rfl ?_
      refine a_if_eq (tgt := 74) dX9_two_67 (by decide) (fun c67_6 => ?_) (fun c67_6 => ?_)
      · refine a_iconst dX9_two_74 ⟨by decide, by decide⟩ ?_
        exact a_iret dX9_two_75 rfl (post_v kQ (by unfold twoF; (repeat' split) <;> omega))
      · refine a_iconst dX9_two_70 ⟨by decide, by decide⟩ ?_
        refine a_goto (tgt := 75) dX9_two_71 (by decide) ?_
        exact a_iret dX9_two_75 rfl (post_v kQ (by unfold twoF; (repeat' split) <;> omega))
  · refine a_tblIn (tgt := 48) 7 dX9_two_1 ⟨by omega, by omega⟩ rfl (by decide) ?_
    refine a_iload_n (j := 1) dX9_two_48 rfl rfl ?_
    refine a_if_ne (tgt := 56) dX9_two_49 (by decide) (fun c49_7 => ?_) (fun c49_7 => ?_)
    · refine a_iconst dX9_two_56 ⟨by decide, by decide⟩ ?_
      refine a_goto (tgt := 61) dX9_two_57 (by decide) ?_
      exact a_iret dX9_two_61 rfl (post_v kQ (by unfold twoF; (repeat' split) <;> omega))
    · refine a_iload_n (j := 2) dX9_two_52 rfl rfl ?_
      refine a_if_eq (tgt := 60) dX9_two_53 (by decide) (fun c53_8 => ?_) (fun c53_8 => ?_)
      · refine a_iconst dX9_two_60 ⟨by decide, by decide⟩ ?_
        exact a_iret dX9_two_61 rfl (post_v kQ (by unfold twoF; (repeat' split) <;> omega))
      · refine a_iconst dX9_two_56 ⟨by decide, by decide⟩ ?_
        refine a_goto (tgt := 61) dX9_two_57 (by decide) ?_
        exact a_iret dX9_two_61 rfl (post_v kQ (by unfold twoF; (repeat' split) <;> omega))
  · refine a_tblOut (tgt := 121) dX9_two_1 (by omega) (by decide) ?_
    refine a_iload_n (j := 2) dX9_two_121 rfl rfl ?_
    refine a_if_ne (tgt := 129) dX9_two_122 (by decide) (fun c122_9 => ?_) (fun c122_9 => ?_)
    · refine a_iload_n (j := 1) dX9_two_129 rfl rfl ?_
      refine a_iload_n (j := 2) dX9_two_130 rfl rfl ?_
      refine a_idiv (z := (w32 (Int.tdiv a b))) dX9_two_131 (by omega) rfl ?_
      exact a_iret dX9_two_132 rfl (post_v kQ (by unfold twoF; (repeat' split) <;> omega))
    · refine a_iconst dX9_two_125 ⟨by decide, by decide⟩ ?_
      refine a_goto (tgt := 132) dX9_two_126 (by decide) ?_
      exact a_iret dX9_two_132 rfl (post_v kQ (by unfold twoF; (repeat' split) <;> omega))
def jnF (g a b : Int) : Int := if g = 43 then w32 (a + b) else if g = 45 then w32 (a - b) else if g = 42 then w32 (a * b) else if g = 47 then (if b = 0 then 0 else w32 (Int.tdiv a b)) else if g = 60 then (if a < b then 1 else 0) else if g = 61 then (if a = b then 1 else 0) else if g = 62 then (if b < a then 1 else 0) else if g = 38 then (if ¬ a = 0 ∧ ¬ b = 0 then 1 else 0) else (if ¬ a = 0 ∨ ¬ b = 0 then 1 else 0)
set_option maxHeartbeats 8000000 in
theorem c_X4_joined {γ : GT} {d : Nat} {g a b : Int} {h : Nat → Nat → Int} {τ : List AC} {Post : Option AV → List AC → Prop} (hd : 0 ≤ d) (kQ : Post (some (vI (jnF g a b))) (mk h τ)) : Cj γ mX4_joined d 0 0 [vI g, vI a, vI b] (mk h τ) Post := by
  refine c_of (by decide) (Nat.le_of_ble_eq_true rfl) ?_
  show Aj γ mX4_joined d 0 0 Post 0 [(0, vI g), (1, vI a), (2, vI b)] [] (mk h τ)
  refine a_iload_n (j := 0) dX4_joined_0 rfl rfl ?_
  rcases (show g = 38 ∨ g = 42 ∨ g = 43 ∨ g = 45 ∨ g = 47 ∨ g = 60 ∨ g = 61 ∨ g = 62 ∨ (¬ g = 38 ∧ ¬ g = 42 ∧ ¬ g = 43 ∧ ¬ g = 45 ∧ ¬ g = 47 ∧ ¬ g = 60 ∧ ¬ g = 61 ∧ ¬ g = 62) by omega) with c1_1 | c1_1 | c1_1 | c1_1 | c1_1 | c1_1 | c1_1 | c1_1 | c1_1
  · refine a_tblIn (tgt := 173) 0 dX4_joined_1 ⟨by omega, by omega⟩ rfl (by decide) ?_
    refine a_iload_n (j := 1) dX4_joined_173 rfl rfl ?_
    refine a_if_eq (tgt := 185) dX4_joined_174 (by decide) (fun c174_2 => ?_) (fun c174_2 => ?_)
    · refine a_iconst dX4_joined_185 ⟨by decide, by decide⟩ ?_
      exact a_iret dX4_joined_186 rfl (post_v kQ (by unfold jnF; first | (rw [if_neg (by omega)]; done) | ((repeat' split) <;> omega)))
    · refine a_iload_n (j := 2) dX4_joined_177 rfl rfl ?_
      refine a_if_eq (tgt := 185) dX4_joined_178 (by decide) (fun c178_3 => ?_) (fun c178_3 => ?_)
      · refine a_iconst dX4_joined_185 ⟨by decide, by decide⟩ ?_
        exact a_iret dX4_joined_186 rfl (post_v kQ (by unfold jnF; first | (rw [if_neg (by omega)]; done) | ((repeat' split) <;> omega)))
      · refine a_iconst dX4_joined_181 ⟨by decide, by decide⟩ ?_
        refine a_goto (tgt := 186) dX4_joined_182 (by decide) ?_
        exact a_iret dX4_joined_186 rfl (post_v kQ (by unfold jnF; first | (rw [if_neg (by omega)]; done) | ((repeat' split) <;> omega)))
  · refine a_tblIn (tgt := 124) 4 dX4_joined_1 ⟨by omega, by omega⟩ rfl (by decide) ?_
    refine a_iload_n (j := 1) dX4_joined_124 rfl rfl ?_
    refine a_iload_n (j := 2) dX4_joined_125 rfl rfl ?_
    refine a_imul (z := (w32 (a * b))) dX4_joined_126 rfl ?_
    exact a_iret dX4_joined_127 rfl (post_v kQ (by unfold jnF; first | (rw [if_neg (by omega)]; done) | ((repeat' split) <;> omega)))
  · refine a_tblIn (tgt := 116) 5 dX4_joined_1 ⟨by omega, by omega⟩ rfl (by decide) ?_
    refine a_iload_n (j := 1) dX4_joined_116 rfl rfl ?_
    refine a_iload_n (j := 2) dX4_joined_117 rfl rfl ?_
    refine a_iadd (z := (w32 (a + b))) dX4_joined_118 rfl ?_
    exact a_iret dX4_joined_119 rfl (post_v kQ (by unfold jnF; first | (rw [if_neg (by omega)]; done) | ((repeat' split) <;> omega)))
  · refine a_tblIn (tgt := 120) 7 dX4_joined_1 ⟨by omega, by omega⟩ rfl (by decide) ?_
    refine a_iload_n (j := 1) dX4_joined_120 rfl rfl ?_
    refine a_iload_n (j := 2) dX4_joined_121 rfl rfl ?_
    refine a_isub (z := (w32 (a - b))) dX4_joined_122 rfl ?_
    exact a_iret dX4_joined_123 rfl (post_v kQ (by unfold jnF; first | (rw [if_neg (by omega)]; done) | ((repeat' split) <;> omega)))
  · refine a_tblIn (tgt := 128) 9 dX4_joined_1 ⟨by omega, by omega⟩ rfl (by decide) ?_
    refine a_iload_n (j := 2) dX4_joined_128 rfl rfl ?_
    refine a_if_ne (tgt := 136) dX4_joined_129 (by decide) (fun c129_4 => ?_) (fun c129_4 => ?_)
    · refine a_iload_n (j := 1) dX4_joined_136 rfl rfl ?_
      refine a_iload_n (j := 2) dX4_joined_137 rfl rfl ?_
      refine a_idiv (z := (w32 (Int.tdiv a b))) dX4_joined_138 (by omega) rfl ?_
      exact a_iret dX4_joined_139 rfl (post_v kQ (by unfold jnF; first | (rw [if_neg (by omega)]; done) | ((repeat' split) <;> omega)))
    · refine a_iconst dX4_joined_132 ⟨by decide, by decide⟩ ?_
      refine a_goto (tgt := 139) dX4_joined_133 (by decide) ?_
      exact a_iret dX4_joined_139 rfl (post_v kQ (by unfold jnF; first | (rw [if_neg (by omega)]; done) | ((repeat' split) <;> omega)))
  · refine a_tblIn (tgt := 140) 22 dX4_joined_1 ⟨by omega, by omega⟩ rfl (by decide) ?_
    refine a_iload_n (j := 1) dX4_joined_140 rfl rfl ?_
    refine a_iload_n (j := 2) dX4_joined_141 rfl rfl ?_
    refine a_icmp_ge (tgt := 149) dX4_joined_142 (by decide) (fun c142_5 => ?_) (fun c142_5 => ?_)
    · refine a_iconst dX4_joined_149 ⟨by decide, by decide⟩ ?_
      exact a_iret dX4_joined_150 rfl (post_v kQ (by unfold jnF; first | (rw [if_neg (by omega)]; done) | ((repeat' split) <;> omega)))
    · refine a_iconst dX4_joined_145 ⟨by decide, by decide⟩ ?_
      refine a_goto (tgt := 150) dX4_joined_146 (by decide) ?_
      exact a_iret dX4_joined_150 rfl (post_v kQ (by unfold jnF; first | (rw [if_neg (by omega)]; done) | ((repeat' split) <;> omega)))
  · refine a_tblIn (tgt := 151) 23 dX4_joined_1 ⟨by omega, by omega⟩ rfl (by decide) ?_
    refine a_iload_n (j := 1) dX4_joined_151 rfl rfl ?_
    refine a_iload_n (j := 2) dX4_joined_152 rfl rfl ?_
    refine a_icmp_ne (tgt := 160) dX4_joined_153 (by decide) (fun c153_6 => ?_) (fun c153_6 => ?_)
    · refine a_iconst dX4_joined_160 ⟨by decide, by decide⟩ ?_
      exact a_iret dX4_joined_161 rfl (post_v kQ (by unfold jnF; first | (rw [if_neg (by omega)]; done) | ((repeat' split) <;> omega)))
    · refine a_iconst dX4_joined_156 ⟨by decide, by decide⟩ ?_
      refine a_goto (tgt := 161) dX4_joined_157 (by decide) ?_
      exact a_iret dX4_joined_161 rfl (post_v kQ (by unfold jnF; first | (rw [if_neg (by omega)]; done) | ((repeat' split) <;> omega)))
  · refine a_tblIn (tgt := 162) 24 dX4_joined_1 ⟨by omega, by omega⟩ rfl (by decide) ?_
    refine a_iload_n (j := 1) dX4_joined_162 rfl rfl ?_
    refine a_iload_n (j := 2) dX4_joined_163 rfl rfl ?_
    refine a_icmp_le (tgt := 171) dX4_joined_164 (by decide) (fun c164_7 => ?_) (fun c164_7 => ?_)
    · refine a_iconst dX4_joined_171 ⟨by decide, by decide⟩ ?_
      exact a_iret dX4_joined_172 rfl (post_v kQ (by unfold jnF; first | (rw [if_neg (by omega)]; done) | ((repeat' split) <;> omega)))
    · refine a_iconst dX4_joined_167 ⟨by decide, by decide⟩ ?_
      refine a_goto (tgt := 172) dX4_joined_168 (by decide) ?_
      exact a_iret dX4_joined_172 rfl (post_v kQ (by unfold jnF; first | (rw [if_neg (by omega)]; done) | ((repeat' split) <;> omega)))
  · refine a_tblDf (tgt := 187) dX4_joined_1 (by rcases (show g = 39 ∨ g = 40 ∨ g = 41 ∨ g = 44 ∨ g = 46 ∨ g = 48 ∨ g = 49 ∨ g = 50 ∨ g = 51 ∨ g = 52 ∨ g = 53 ∨ g = 54 ∨ g = 55 ∨ g = 56 ∨ g = 57 ∨ g = 58 ∨ g = 59 ∨ (g < 38 ∨ 62 < g) by omega) with q_ | q_ | q_ | q_ | q_ | q_ | q_ | q_ | q_ | q_ | q_ | q_ | q_ | q_ | q_ | q_ | q_ | q_; exact Or.inr ⟨1, by omega, by omega, rfl⟩; exact Or.inr ⟨2, by omega, by omega, rfl⟩; exact Or.inr ⟨3, by omega, by omega, rfl⟩; exact Or.inr ⟨6, by omega, by omega, rfl⟩; exact Or.inr ⟨8, by omega, by omega, rfl⟩; exact Or.inr ⟨10, by omega, by omega, rfl⟩; exact Or.inr ⟨11, by omega, by omega, rfl⟩; exact Or.inr ⟨12, by omega, by omega, rfl⟩; exact Or.inr ⟨13, by omega, by omega, rfl⟩; exact Or.inr ⟨14, by omega, by omega, rfl⟩; exact Or.inr ⟨15, by omega, by omega, rfl⟩; exact Or.inr ⟨16, by omega, by omega, rfl⟩; exact Or.inr ⟨17, by omega, by omega, rfl⟩; exact Or.inr ⟨18, by omega, by omega, rfl⟩; exact Or.inr ⟨19, by omega, by omega, rfl⟩; exact Or.inr ⟨20, by omega, by omega, rfl⟩; exact Or.inr ⟨21, by omega, by omega, rfl⟩; exact Or.inl q_) (by decide) ?_
    refine a_iload_n (j := 1) dX4_joined_187 rfl rfl ?_
    refine a_if_ne (tgt := 195) dX4_joined_188 (by decide) (fun c188_8 => ?_) (fun c188_8 => ?_)
    · refine a_iconst dX4_joined_195 ⟨by decide, by decide⟩ ?_
      refine a_goto (tgt := 200) dX4_joined_196 (by decide) ?_
      exact a_iret dX4_joined_200 rfl (post_v kQ (by unfold jnF; first | (rw [if_neg (by omega)]; done) | ((repeat' split) <;> omega)))
    · refine a_iload_n (j := 2) dX4_joined_191 rfl rfl ?_
      refine a_if_eq (tgt := 199) dX4_joined_192 (by decide) (fun c192_9 => ?_) (fun c192_9 => ?_)
      · refine a_iconst dX4_joined_199 ⟨by decide, by decide⟩ ?_
        exact a_iret dX4_joined_200 rfl (post_v kQ (by unfold jnF; first | (rw [if_neg (by omega)]; done) | ((repeat' split) <;> omega)))
      · refine a_iconst dX4_joined_195 ⟨by decide, by decide⟩ ?_
        refine a_goto (tgt := 200) dX4_joined_196 (by decide) ?_
        exact a_iret dX4_joined_200 rfl (post_v kQ (by unfold jnF; first | (rw [if_neg (by omega)]; done) | ((repeat' split) <;> omega)))
set_option maxHeartbeats 8000000 in
theorem c_X4_named {γ : GT} {d : Nat} {n a b c : Int} {h : Nat → Nat → Int} {τ : List AC} {Post : Option AV → List AC → Prop} (hd : 0 ≤ d) (kQ : Post (some (vI (if n = 0 then a else if n = 1 then b else c))) (mk h τ)) : Cj γ mX4_named d 0 0 [vI n, vI a, vI b, vI c] (mk h τ) Post := by
  refine c_of (by decide) (Nat.le_of_ble_eq_true rfl) ?_
  show Aj γ mX4_named d 0 0 Post 0 [(0, vI n), (1, vI a), (2, vI b), (3, vI c)] [] (mk h τ)
  refine a_iload_n (j := 0) dX4_named_0 rfl rfl ?_
  rcases (show n = 0 ∨ n = 1 ∨ (¬ n = 0 ∧ ¬ n = 1) by omega) with c1_1 | c1_1 | c1_1
  · refine a_lookup (tgt := 28) (off := 27) dX4_named_1 (by decide) (by rw [c1_1]; decide) (by decide) ?_
    refine a_iload_n (j := 1) dX4_named_28 rfl rfl ?_
    exact a_iret dX4_named_29 rfl (post_v kQ (by (repeat' split) <;> omega))
  · refine a_lookup (tgt := 30) (off := 29) dX4_named_1 (by decide) (by rw [c1_1]; decide) (by decide) ?_
    refine a_iload_n (j := 2) dX4_named_30 rfl rfl ?_
    exact a_iret dX4_named_31 rfl (post_v kQ (by (repeat' split) <;> omega))
  · refine a_lookup (tgt := 32) (off := 31) dX4_named_1 (by decide) (by simp only [Op.lookupswitch.offset]; (repeat' split) <;> omega) (by decide) ?_
    refine a_iload_n (j := 3) dX4_named_32 rfl rfl ?_
    exact a_iret dX4_named_33 rfl (post_v kQ (by (repeat' split) <;> omega))
def soF (g : Int) : Int := if 97 ≤ g ∧ g ≤ 122 then 1 else if 48 ≤ g ∧ g ≤ 57 then 2 else 3
set_option maxHeartbeats 8000000 in
theorem c_X3_sortOf {γ : GT} {d : Nat} {g : Int} {h : Nat → Nat → Int} {τ : List AC} {Post : Option AV → List AC → Prop} (hd : 1 ≤ d) (kQ : Post (some (vI (soF g))) (mk h τ)) : Cj γ mX3_sortOf d 0 0 [vI g] (mk h τ) Post := by
  refine c_of (by decide) (Nat.le_of_ble_eq_true rfl) ?_
  show Aj γ mX3_sortOf d 0 0 Post 0 [(0, vI g)] [] (mk h τ)
  refine a_iload_n (j := 0) dX3_sortOf_0 rfl rfl ?_
  refine a_bipush dX3_sortOf_1 ⟨by decide, by decide, by decide⟩ ?_
  refine a_bipush dX3_sortOf_3 ⟨by decide, by decide, by decide⟩ ?_
  refine a_callS (d' := d - 1) (mc' := 0) (ms' := 0) (mc1 := 0) (ms1 := 0) (st := []) [vI g, vI 97, vI 122] dX3_sortOf_5 mwX8_within lkX3_23 rfl (Nat.le_of_ble_eq_true rfl) (by omega) rfl rfl (c_X8_within  (by omega)    (fun t5_1 => ?_) (fun t5_1 => ?_))
  · have t5_1 : 97 ≤ g ∧ g ≤ 122 := t5_1
    show Aj γ mX3_sortOf d 0 0 Post 8 [(0, vI g)] [vI 1] (mk h τ)
    refine a_if_eq (tgt := 13) dX3_sortOf_8 (by decide) (fun c => absurd c (by decide)) (fun _ => ?_)
    refine a_iconst dX3_sortOf_11 ⟨by decide, by decide⟩ ?_
    exact a_iret dX3_sortOf_12 rfl (post_v kQ (by unfold soF; (repeat' split) <;> omega))
  · have t5_1 : ¬ (97 ≤ g ∧ g ≤ 122) := t5_1
    show Aj γ mX3_sortOf d 0 0 Post 8 [(0, vI g)] [vI 0] (mk h τ)
    refine a_if_eq (tgt := 13) dX3_sortOf_8 (by decide) (fun _ => ?_) (fun c => absurd c (by decide))
    refine a_iload_n (j := 0) dX3_sortOf_13 rfl rfl ?_
    refine a_bipush dX3_sortOf_14 ⟨by decide, by decide, by decide⟩ ?_
    refine a_bipush dX3_sortOf_16 ⟨by decide, by decide, by decide⟩ ?_
    refine a_callS (d' := d - 1) (mc' := 0) (ms' := 0) (mc1 := 0) (ms1 := 0) (st := []) [vI g, vI 48, vI 57] dX3_sortOf_18 mwX8_within lkX3_23 rfl (Nat.le_of_ble_eq_true rfl) (by omega) rfl rfl (c_X8_within  (by omega)    (fun t18_2 => ?_) (fun t18_2 => ?_))
    · have t18_2 : 48 ≤ g ∧ g ≤ 57 := t18_2
      show Aj γ mX3_sortOf d 0 0 Post 21 [(0, vI g)] [vI 1] (mk h τ)
      refine a_if_eq (tgt := 28) dX3_sortOf_21 (by decide) (fun c => absurd c (by decide)) (fun _ => ?_)
      refine a_iconst dX3_sortOf_24 ⟨by decide, by decide⟩ ?_
      refine a_goto (tgt := 29) dX3_sortOf_25 (by decide) ?_
      exact a_iret dX3_sortOf_29 rfl (post_v kQ (by unfold soF; (repeat' split) <;> omega))
    · have t18_2 : ¬ (48 ≤ g ∧ g ≤ 57) := t18_2
      show Aj γ mX3_sortOf d 0 0 Post 21 [(0, vI g)] [vI 0] (mk h τ)
      refine a_if_eq (tgt := 28) dX3_sortOf_21 (by decide) (fun _ => ?_) (fun c => absurd c (by decide))
      refine a_iconst dX3_sortOf_28 ⟨by decide, by decide⟩ ?_
      exact a_iret dX3_sortOf_29 rfl (post_v kQ (by unfold soF; (repeat' split) <;> omega))
set_option maxHeartbeats 8000000 in
theorem c_X3_byteAt {γ : GT} {d : Nat} {p : Int} {h : Nat → Nat → Int} {τ : List AC} {Post : Option AV → List AC → Prop} (hd : 1 ≤ d) {v1 : Int} (e1 : h 84 1 = v1) {v2 : Int} (e2 : h 85 (Int.toNat p) = v2) (hT : 0 ≤ v1 ∧ v1 ≤ 96) (kQ : Post (some (vI (if 0 ≤ p ∧ p < v1 then and32 v2 255 else 32))) (mk h τ)) : Cj γ mX3_byteAt d 0 0 [vA 84, vI p] (mk h τ) Post := by
  refine c_of (by decide) (Nat.le_of_ble_eq_true rfl) ?_
  show Aj γ mX3_byteAt d 0 0 Post 0 [(0, vA 84), (1, vI p)] [] (mk h τ)
  refine a_iload_n (j := 1) dX3_byteAt_0 rfl rfl ?_
  refine a_iconst dX3_byteAt_1 ⟨by decide, by decide⟩ ?_
  refine a_aload_n (j := 0) dX3_byteAt_2 rfl rfl (Nat.le_of_ble_eq_true rfl) ?_
  refine b_get (a := 84) (z := v1) (t := 0) dX3_byteAt_3 fwX3_19 (by decide) rfl (by decide) rfl rfl e1 ?_
  refine a_iconst dX3_byteAt_6 ⟨by decide, by decide⟩ ?_
  refine a_isub (z := (v1 - 1)) dX3_byteAt_7 (w_ok (by omega) (by omega)) ?_
  refine a_callS (d' := d - 1) (mc' := 0) (ms' := 0) (mc1 := 0) (ms1 := 0) (st := []) [vI p, vI 0, vI (v1 - 1)] dX3_byteAt_8 mwX8_within lkX3_23 rfl (Nat.le_of_ble_eq_true rfl) (by omega) rfl rfl (c_X8_within  (by omega)    (fun t8_1 => ?_) (fun t8_1 => ?_))
  · have t8_1 : 0 ≤ p ∧ p ≤ (v1 - 1) := t8_1
    show Aj γ mX3_byteAt d 0 0 Post 11 [(0, vA 84), (1, vI p)] [vI 1] (mk h τ)
    refine a_if_eq (tgt := 27) dX3_byteAt_11 (by decide) (fun c => absurd c (by decide)) (fun _ => ?_)
    refine a_aload_n (j := 0) dX3_byteAt_14 rfl rfl (Nat.le_of_ble_eq_true rfl) ?_
    refine b_getp (a := 84) (p := 85) dX3_byteAt_15 fwX3_9 (by decide) rfl (by decide) rfl rfl ?_
    refine a_iload_n (j := 1) dX3_byteAt_18 rfl rfl ?_
    refine b_baload (a := 85) (z := v2) (Int.toNat p) dX3_byteAt_19 (by decide) rfl (by omega) (by omega) (sp_nil rfl _) e2 (fun r19_2 => ?_)
    refine a_sipush dX3_byteAt_20 ⟨by decide, by decide, by decide⟩ ?_
    refine a_iand (z := (and32 v2 255)) dX3_byteAt_23 rfl ?_
    refine a_goto (tgt := 29) dX3_byteAt_24 (by decide) ?_
    exact a_iret dX3_byteAt_29 rfl (post_v kQ (by (repeat' split) <;> omega))
  · have t8_1 : ¬ (0 ≤ p ∧ p ≤ (v1 - 1)) := t8_1
    show Aj γ mX3_byteAt d 0 0 Post 11 [(0, vA 84), (1, vI p)] [vI 0] (mk h τ)
    refine a_if_eq (tgt := 27) dX3_byteAt_11 (by decide) (fun _ => ?_) (fun c => absurd c (by decide))
    refine a_bipush dX3_byteAt_27 ⟨by decide, by decide, by decide⟩ ?_
    exact a_iret dX3_byteAt_29 rfl (post_v kQ (by (repeat' split) <;> omega))
set_option maxHeartbeats 8000000 in
theorem c_X3_faultPlace {γ : GT} {d : Nat}  {h : Nat → Nat → Int} {τ : List AC} {Post : Option AV → List AC → Prop} (hd : 0 ≤ d) {v1 : Int} (e1 : h 84 2 = v1) (kQ : Post (some (vI v1)) (mk h τ)) : Cj γ mX3_faultPlace d 0 0 [vA 84] (mk h τ) Post := by
  refine c_of (by decide) (Nat.le_of_ble_eq_true rfl) ?_
  show Aj γ mX3_faultPlace d 0 0 Post 0 [(0, vA 84)] [] (mk h τ)
  refine a_aload_n (j := 0) dX3_faultPlace_0 rfl rfl (Nat.le_of_ble_eq_true rfl) ?_
  refine b_get (a := 84) (z := v1) (t := 0) dX3_faultPlace_1 fwX3_64 (by decide) rfl (by decide) rfl rfl e1 ?_
  exact a_iret dX3_faultPlace_4 rfl (post_v kQ (by rfl))
set_option maxHeartbeats 8000000 in
theorem c_X3_put {γ : GT} {d : Nat} {y : Int} {h : Nat → Nat → Int} {τ : List AC} {Post : Option AV → List AC → Prop} (hd : 0 ≤ d) {v1 : Int} (e1 : h 84 7 = v1) (hT : 0 ≤ v1 ∧ v1 ≤ 96) (k1 : (((96 : Nat) : Int) ≤ v1) → Post none (mk h τ)) (k2 : (¬ ((96 : Nat) : Int) ≤ v1) → Post none (mk (up2 (up2 h 86 (Int.toNat v1) y) 84 7 (v1 + 1)) τ)) : Cj γ mX3_put d 0 0 [vA 84, vI y] (mk h τ) Post := by
  refine c_of (by decide) (Nat.le_of_ble_eq_true rfl) ?_
  show Aj γ mX3_put d 0 0 Post 0 [(0, vA 84), (1, vI y)] [] (mk h τ)
  refine a_aload_n (j := 0) dX3_put_0 rfl rfl (Nat.le_of_ble_eq_true rfl) ?_
  refine b_get (a := 84) (z := v1) (t := 0) dX3_put_1 fwX3_33 (by decide) rfl (by decide) rfl rfl e1 ?_
  refine a_aload_n (j := 0) dX3_put_4 rfl rfl (Nat.le_of_ble_eq_true rfl) ?_
  refine b_getp (a := 84) (p := 86) dX3_put_5 fwX3_15 (by decide) rfl (by decide) rfl rfl ?_
  refine b_alen (a := 86) dX3_put_8 (by decide) rfl ⟨by decide, by decide⟩ (by decide) ?_
  refine a_icmp_ge (tgt := 32) dX3_put_9 (by decide) (fun c9_1 => ?_) (fun c9_1 => ?_)
  · exact a_vret dX3_put_32 rfl (k1 c9_1)
  · refine a_aload_n (j := 0) dX3_put_12 rfl rfl (Nat.le_of_ble_eq_true rfl) ?_
    refine b_getp (a := 84) (p := 86) dX3_put_13 fwX3_15 (by decide) rfl (by decide) rfl rfl ?_
    refine a_aload_n (j := 0) dX3_put_16 rfl rfl (Nat.le_of_ble_eq_true rfl) ?_
    refine b_get (a := 84) (z := v1) (t := 0) dX3_put_17 fwX3_33 (by decide) rfl (by decide) rfl rfl e1 ?_
    refine a_iload_n (j := 1) dX3_put_20 rfl rfl ?_
    refine b_iastore (a := 86) (Int.toNat v1) dX3_put_21 (by decide) rfl (by omega) (by omega) (sp_nil rfl _) ?_
    refine a_aload_n (j := 0) dX3_put_22 rfl rfl (Nat.le_of_ble_eq_true rfl) ?_
    refine a_dup dX3_put_23 (fun h => nomatch h) ?_
    refine b_get (a := 84) (z := v1) (t := 0) dX3_put_24 fwX3_33 (by decide) rfl (by decide) rfl rfl ((up2_ne (by omega)).trans e1) ?_
    refine a_iconst dX3_put_27 ⟨by decide, by decide⟩ ?_
    refine a_iadd (z := (v1 + 1)) dX3_put_28 (w_ok (by omega) (by omega)) ?_
    refine b_put (a := 84) (v := vI (v1 + 1)) dX3_put_29 pwX3_33 (fun h => nomatch h) (by decide) rfl (by decide) rfl rfl (fit_int _) ?_
    show Aj γ mX3_put d 0 0 Post 32 [(0, vA 84), (1, vI y)] [] (mk (up2 (up2 h 86 (Int.toNat v1) y) 84 7 (v1 + 1)) τ)
    exact a_vret dX3_put_32 rfl (k2 c9_1)
set_option maxHeartbeats 8000000 in
theorem c_X5_stepBy {γ : GT} {d : Nat} {t r : Int} {h : Nat → Nat → Int} {τ : List AC} {Post : Option AV → List AC → Prop} (hd : 0 ≤ d) {v1 : Int} (e1 : h 71 (Int.toNat ((t * 4) + 0)) = v1) {v2 : Int} (e2 : h 71 (Int.toNat ((t * 4) + 1)) = v2) {v3 : Int} (e3 : h 71 (Int.toNat ((t * 4) + 2)) = v3) (ht : 0 ≤ t ∧ t ≤ 11) (h0 : 0 ≤ v1 ∧ v1 ≤ 100) (h1 : 0 ≤ v2 ∧ v2 ≤ 100) (h2 : 0 ≤ v3 ∧ v3 ≤ 100) (k1 : ((0 + v1) ≤ r) → (((0 + v1) + v2) ≤ r) → ((((0 + v1) + v2) + v3) ≤ r) → Post (some (vI 3)) (mk h τ)) (k2 : ((0 + v1) ≤ r) → (((0 + v1) + v2) ≤ r) → (¬ (((0 + v1) + v2) + v3) ≤ r) → Post (some (vI 2)) (mk h τ)) (k3 : ((0 + v1) ≤ r) → (¬ ((0 + v1) + v2) ≤ r) → Post (some (vI 1)) (mk h τ)) (k4 : (¬ (0 + v1) ≤ r) → Post (some (vI 0)) (mk h τ)) : Cj γ mX5_stepBy d 0 0 [vA 63, vI t, vI r] (mk h τ) Post := by
  refine c_of (by decide) (Nat.le_of_ble_eq_true rfl) ?_
  show Aj γ mX5_stepBy d 0 0 Post 0 [(0, vA 63), (1, vI t), (2, vI r)] [] (mk h τ)
  refine a_iconst dX5_stepBy_0 ⟨by decide, by decide⟩ ?_
  refine a_istore_n (lv' := [(3, vI 0), (0, vA 63), (1, vI t), (2, vI r)]) dX5_stepBy_1 rfl (by decide) rfl ?_
  refine a_iconst dX5_stepBy_2 ⟨by decide, by decide⟩ ?_
  refine a_istore (lv' := [(4, vI 0), (3, vI 0), (0, vA 63), (1, vI t), (2, vI r)]) dX5_stepBy_3 (by decide) rfl ?_
  refine a_iload (j := 0) dX5_stepBy_5 rfl ?_
  refine a_iconst dX5_stepBy_7 ⟨by decide, by decide⟩ ?_
  refine a_icmp_ge (tgt := 39) dX5_stepBy_8 (by decide) (fun c => absurd c (by decide)) (fun _ => ?_)
  refine a_iload_n (j := 1) dX5_stepBy_11 rfl rfl ?_
  refine a_aload_n (j := 2) dX5_stepBy_12 rfl rfl (Nat.le_of_ble_eq_true rfl) ?_
  refine b_getp (a := 63) (p := 71) dX5_stepBy_13 fwX5_37 (by decide) rfl (by decide) rfl rfl ?_
  refine a_iload_n (j := 3) dX5_stepBy_16 rfl rfl ?_
  refine a_iconst dX5_stepBy_17 ⟨by decide, by decide⟩ ?_
  refine a_imul (z := (t * 4)) dX5_stepBy_18 (w_ok (by omega) (by omega)) ?_
  refine a_iload (j := 0) dX5_stepBy_19 rfl ?_
  refine a_iadd (z := (t * 4) + 0) dX5_stepBy_21 (w_ok (by omega) (by omega)) ?_
  refine b_iaload (a := 71) (z := v1) (Int.toNat ((t * 4) + 0)) dX5_stepBy_22 (by decide) rfl (by omega) (by omega) (sp_nil rfl _) e1 (fun r22_1 => ?_)
  refine a_iadd (z := (0 + v1)) dX5_stepBy_23 (w_ok (by omega) (by omega)) ?_
  refine a_istore_n (lv' := [(3, vI (0 + v1)), (4, vI 0), (0, vA 63), (1, vI t), (2, vI r)]) dX5_stepBy_24 rfl (by decide) rfl ?_
  refine a_iload_n (j := 0) dX5_stepBy_25 rfl rfl ?_
  refine a_iload_n (j := 4) dX5_stepBy_26 rfl rfl ?_
  refine a_icmp_le (tgt := 33) dX5_stepBy_27 (by decide) (fun c27_2 => ?_) (fun c27_2 => ?_)
  · refine a_iinc (j := 1) (z' := 1) (lv' := [(4, vI 1), (3, vI (0 + v1)), (0, vA 63), (1, vI t), (2, vI r)]) dX5_stepBy_33 rfl (w_ok (by omega) (by omega)) (by decide) rfl ?_
    refine a_goto (tgt := 5) dX5_stepBy_36 (by decide) ?_
    refine a_iload (j := 0) dX5_stepBy_5 rfl ?_
    refine a_iconst dX5_stepBy_7 ⟨by decide, by decide⟩ ?_
    refine a_icmp_ge (tgt := 39) dX5_stepBy_8 (by decide) (fun c => absurd c (by decide)) (fun _ => ?_)
    refine a_iload_n (j := 1) dX5_stepBy_11 rfl rfl ?_
    refine a_aload_n (j := 2) dX5_stepBy_12 rfl rfl (Nat.le_of_ble_eq_true rfl) ?_
    refine b_getp (a := 63) (p := 71) dX5_stepBy_13 fwX5_37 (by decide) rfl (by decide) rfl rfl ?_
    refine a_iload_n (j := 3) dX5_stepBy_16 rfl rfl ?_
    refine a_iconst dX5_stepBy_17 ⟨by decide, by decide⟩ ?_
    refine a_imul (z := (t * 4)) dX5_stepBy_18 (w_ok (by omega) (by omega)) ?_
    refine a_iload (j := 0) dX5_stepBy_19 rfl ?_
    refine a_iadd (z := ((t * 4) + 1)) dX5_stepBy_21 (w_ok (by omega) (by omega)) ?_
    refine b_iaload (a := 71) (z := v2) (Int.toNat ((t * 4) + 1)) dX5_stepBy_22 (by decide) rfl (by omega) (by omega) (sp_nil rfl _) e2 (fun r22_3 => ?_)
    refine a_iadd (z := ((0 + v1) + v2)) dX5_stepBy_23 (w_ok (by omega) (by omega)) ?_
    refine a_istore_n (lv' := [(3, vI ((0 + v1) + v2)), (4, vI 1), (0, vA 63), (1, vI t), (2, vI r)]) dX5_stepBy_24 rfl (by decide) rfl ?_
    refine a_iload_n (j := 0) dX5_stepBy_25 rfl rfl ?_
    refine a_iload_n (j := 4) dX5_stepBy_26 rfl rfl ?_
    refine a_icmp_le (tgt := 33) dX5_stepBy_27 (by decide) (fun c27_4 => ?_) (fun c27_4 => ?_)
    · refine a_iinc (j := 1) (z' := 2) (lv' := [(4, vI 2), (3, vI ((0 + v1) + v2)), (0, vA 63), (1, vI t), (2, vI r)]) dX5_stepBy_33 rfl (w_ok (by omega) (by omega)) (by decide) rfl ?_
      refine a_goto (tgt := 5) dX5_stepBy_36 (by decide) ?_
      refine a_iload (j := 0) dX5_stepBy_5 rfl ?_
      refine a_iconst dX5_stepBy_7 ⟨by decide, by decide⟩ ?_
      refine a_icmp_ge (tgt := 39) dX5_stepBy_8 (by decide) (fun c => absurd c (by decide)) (fun _ => ?_)
      refine a_iload_n (j := 1) dX5_stepBy_11 rfl rfl ?_
      refine a_aload_n (j := 2) dX5_stepBy_12 rfl rfl (Nat.le_of_ble_eq_true rfl) ?_
      refine b_getp (a := 63) (p := 71) dX5_stepBy_13 fwX5_37 (by decide) rfl (by decide) rfl rfl ?_
      refine a_iload_n (j := 3) dX5_stepBy_16 rfl rfl ?_
      refine a_iconst dX5_stepBy_17 ⟨by decide, by decide⟩ ?_
      refine a_imul (z := (t * 4)) dX5_stepBy_18 (w_ok (by omega) (by omega)) ?_
      refine a_iload (j := 0) dX5_stepBy_19 rfl ?_
      refine a_iadd (z := ((t * 4) + 2)) dX5_stepBy_21 (w_ok (by omega) (by omega)) ?_
      refine b_iaload (a := 71) (z := v3) (Int.toNat ((t * 4) + 2)) dX5_stepBy_22 (by decide) rfl (by omega) (by omega) (sp_nil rfl _) e3 (fun r22_5 => ?_)
      refine a_iadd (z := (((0 + v1) + v2) + v3)) dX5_stepBy_23 (w_ok (by omega) (by omega)) ?_
      refine a_istore_n (lv' := [(3, vI (((0 + v1) + v2) + v3)), (4, vI 2), (0, vA 63), (1, vI t), (2, vI r)]) dX5_stepBy_24 rfl (by decide) rfl ?_
      refine a_iload_n (j := 0) dX5_stepBy_25 rfl rfl ?_
      refine a_iload_n (j := 4) dX5_stepBy_26 rfl rfl ?_
      refine a_icmp_le (tgt := 33) dX5_stepBy_27 (by decide) (fun c27_6 => ?_) (fun c27_6 => ?_)
      · refine a_iinc (j := 1) (z' := 3) (lv' := [(4, vI 3), (3, vI (((0 + v1) + v2) + v3)), (0, vA 63), (1, vI t), (2, vI r)]) dX5_stepBy_33 rfl (w_ok (by omega) (by omega)) (by decide) rfl ?_
        refine a_goto (tgt := 5) dX5_stepBy_36 (by decide) ?_
        refine a_iload (j := 0) dX5_stepBy_5 rfl ?_
        refine a_iconst dX5_stepBy_7 ⟨by decide, by decide⟩ ?_
        refine a_icmp_ge (tgt := 39) dX5_stepBy_8 (by decide) (fun _ => ?_) (fun c => absurd c (by decide))
        refine a_iconst dX5_stepBy_39 ⟨by decide, by decide⟩ ?_
        exact a_iret dX5_stepBy_40 rfl (k1 c27_2 c27_4 c27_6)
      · refine a_iload (j := 1) dX5_stepBy_30 rfl ?_
        exact a_iret dX5_stepBy_32 rfl (k2 c27_2 c27_4 c27_6)
    · refine a_iload (j := 1) dX5_stepBy_30 rfl ?_
      exact a_iret dX5_stepBy_32 rfl (k3 c27_2 c27_4)
  · refine a_iload (j := 1) dX5_stepBy_30 rfl ?_
    exact a_iret dX5_stepBy_32 rfl (k4 c27_2)
