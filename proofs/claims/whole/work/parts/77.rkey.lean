theorem wd_0 {B : Nat → Int} {s e : Nat} : wdS B s e 0 ↔ (e - s = 5 ∧ B s = 119 ∧ B (1 + s) = 97 ∧ B (2 + s) = 105 ∧ B (3 + s) = 116 ∧ B (4 + s) = 115) := by
  have hl : slen.getD 0 0 = 5 := by decide
  unfold wdS
  rw [hl]
  constructor
  · intro q
    exact ⟨q.1, by have := q.2 0 (by decide); rw [Nat.add_comm s 0] at this; rw [Nat.zero_add] at this; exact this.trans (by decide), by have := q.2 1 (by decide); rw [Nat.add_comm s 1] at this; exact this.trans (by decide), by have := q.2 2 (by decide); rw [Nat.add_comm s 2] at this; exact this.trans (by decide), by have := q.2 3 (by decide); rw [Nat.add_comm s 3] at this; exact this.trans (by decide), by have := q.2 4 (by decide); rw [Nat.add_comm s 4] at this; exact this.trans (by decide)⟩
  · rintro ⟨q0, q1, q2, q3, q4, q5⟩
    refine ⟨q0, fun k hk => ?_⟩
    rcases (by omega : k = 0 ∨ k = 1 ∨ k = 2 ∨ k = 3 ∨ k = 4) with rfl | rfl | rfl | rfl | rfl
    · rw [Nat.add_comm s 0]; rw [Nat.zero_add]; exact q1.trans (by decide)
    · rw [Nat.add_comm s 1]; exact q2.trans (by decide)
    · rw [Nat.add_comm s 2]; exact q3.trans (by decide)
    · rw [Nat.add_comm s 3]; exact q4.trans (by decide)
    · rw [Nat.add_comm s 4]; exact q5.trans (by decide)
theorem wd_1 {B : Nat → Int} {s e : Nat} : wdS B s e 1 ↔ (e - s = 4 ∧ B s = 116 ∧ B (1 + s) = 105 ∧ B (2 + s) = 100 ∧ B (3 + s) = 101) := by
  have hl : slen.getD 1 0 = 4 := by decide
  unfold wdS
  rw [hl]
  constructor
  · intro q
    exact ⟨q.1, by have := q.2 0 (by decide); rw [Nat.add_comm s 0] at this; rw [Nat.zero_add] at this; exact this.trans (by decide), by have := q.2 1 (by decide); rw [Nat.add_comm s 1] at this; exact this.trans (by decide), by have := q.2 2 (by decide); rw [Nat.add_comm s 2] at this; exact this.trans (by decide), by have := q.2 3 (by decide); rw [Nat.add_comm s 3] at this; exact this.trans (by decide)⟩
  · rintro ⟨q0, q1, q2, q3, q4⟩
    refine ⟨q0, fun k hk => ?_⟩
    rcases (by omega : k = 0 ∨ k = 1 ∨ k = 2 ∨ k = 3) with rfl | rfl | rfl | rfl
    · rw [Nat.add_comm s 0]; rw [Nat.zero_add]; exact q1.trans (by decide)
    · rw [Nat.add_comm s 1]; exact q2.trans (by decide)
    · rw [Nat.add_comm s 2]; exact q3.trans (by decide)
    · rw [Nat.add_comm s 3]; exact q4.trans (by decide)
theorem wd_2 {B : Nat → Int} {s e : Nat} : wdS B s e 2 ↔ (e - s = 4 ∧ B s = 119 ∧ B (1 + s) = 97 ∧ B (2 + s) = 108 ∧ B (3 + s) = 107) := by
  have hl : slen.getD 2 0 = 4 := by decide
  unfold wdS
  rw [hl]
  constructor
  · intro q
    exact ⟨q.1, by have := q.2 0 (by decide); rw [Nat.add_comm s 0] at this; rw [Nat.zero_add] at this; exact this.trans (by decide), by have := q.2 1 (by decide); rw [Nat.add_comm s 1] at this; exact this.trans (by decide), by have := q.2 2 (by decide); rw [Nat.add_comm s 2] at this; exact this.trans (by decide), by have := q.2 3 (by decide); rw [Nat.add_comm s 3] at this; exact this.trans (by decide)⟩
  · rintro ⟨q0, q1, q2, q3, q4⟩
    refine ⟨q0, fun k hk => ?_⟩
    rcases (by omega : k = 0 ∨ k = 1 ∨ k = 2 ∨ k = 3) with rfl | rfl | rfl | rfl
    · rw [Nat.add_comm s 0]; rw [Nat.zero_add]; exact q1.trans (by decide)
    · rw [Nat.add_comm s 1]; exact q2.trans (by decide)
    · rw [Nat.add_comm s 2]; exact q3.trans (by decide)
    · rw [Nat.add_comm s 3]; exact q4.trans (by decide)
set_option maxHeartbeats 8000000 in
theorem l_tk3 {γ : GT} {d : Nat} {B : Nat → Int} {n s e : Nat} {t : Tk} {h : Nat → Nat → Int} {τ : List AC} {Post : Option AV → List AC → Prop} (hd : 3 ≤ d) (hm : n ≤ 96) (hBr : ∀ k, 0 ≤ B k ∧ B k ≤ 255) (hC : CNE h) (rt : RTk B n h t) (hk1 : t.1 = 1) (hs : t.2.1 = s) (he : t.2.2 = e) (kS : ∀ K : Nat, 3 ≤ K → K < 3 → wdS B s e K → (∀ j, 3 ≤ j → j < K → ¬ wdS B s e j) → ∀ h', Fr [123] h h' → (∀ k, (k < 18 ∨ 23 < k) → h' 123 k = h 123 k) → h' 123 23 = ((K : Nat) : Int) → RTk B n h' (nxt B n t) → Post (some (vI 1)) (mk h' τ)) (kN : (∀ j, 3 ≤ j → j < 3 → ¬ wdS B s e j) → Post (some (vI 0)) (mk h τ)) : Aj γ mX9_takesKey d 0 0 Post 12 [(1, vI 3), (0, vA 123)] [] (mk h τ) := by
  have hB := rt.2.1
  have hvl := rt.2.2.2.2.2.2.2.2.2.1
  have hvn := rt.2.2.2.2.2.2.2.2.2.2.1
  have h18 : h 123 18 = ((e : Nat) : Int) := by rw [← he]; exact rt.2.2.1
  have h19 : h 123 19 = ((s : Nat) : Int) := by rw [← hs]; exact rt.2.2.2.1
  refine a_iload_n (j := 0) dX9_takesKey_12 rfl rfl ?_
  refine a_iconst dX9_takesKey_13 ⟨by decide, by decide⟩ ?_
  refine a_icmp_ge (tgt := 127) dX9_takesKey_14 (by decide) (fun _ => ?_) (fun c => absurd c (by decide))
  refine a_iconst dX9_takesKey_127 ⟨by decide, by decide⟩ ?_
  exact a_zret dX9_takesKey_128 rfl (by first | exact Or.inl rfl | exact Or.inr rfl | omega) (kN (fun j h1 h2 => by omega))
set_option maxHeartbeats 8000000 in
theorem l_tk2 {γ : GT} {d : Nat} {B : Nat → Int} {n s e : Nat} {t : Tk} {h : Nat → Nat → Int} {τ : List AC} {Post : Option AV → List AC → Prop} (hd : 3 ≤ d) (hm : n ≤ 96) (hBr : ∀ k, 0 ≤ B k ∧ B k ≤ 255) (hC : CNE h) (rt : RTk B n h t) (hk1 : t.1 = 1) (hs : t.2.1 = s) (he : t.2.2 = e) (kS : ∀ K : Nat, 2 ≤ K → K < 3 → wdS B s e K → (∀ j, 2 ≤ j → j < K → ¬ wdS B s e j) → ∀ h', Fr [123] h h' → (∀ k, (k < 18 ∨ 23 < k) → h' 123 k = h 123 k) → h' 123 23 = ((K : Nat) : Int) → RTk B n h' (nxt B n t) → Post (some (vI 1)) (mk h' τ)) (kN : (∀ j, 2 ≤ j → j < 3 → ¬ wdS B s e j) → Post (some (vI 0)) (mk h τ)) : Aj γ mX9_takesKey d 0 0 Post 12 [(1, vI 2), (0, vA 123)] [] (mk h τ) := by
  have hB := rt.2.1
  have hvl := rt.2.2.2.2.2.2.2.2.2.1
  have hvn := rt.2.2.2.2.2.2.2.2.2.2.1
  have h18 : h 123 18 = ((e : Nat) : Int) := by rw [← he]; exact rt.2.2.1
  have h19 : h 123 19 = ((s : Nat) : Int) := by rw [← hs]; exact rt.2.2.2.1
  refine a_iload_n (j := 0) dX9_takesKey_12 rfl rfl ?_
  refine a_iconst dX9_takesKey_13 ⟨by decide, by decide⟩ ?_
  refine a_icmp_ge (tgt := 127) dX9_takesKey_14 (by decide) (fun c => absurd c (by decide)) (fun _ => ?_)
  refine a_aload_n (j := 1) dX9_takesKey_17 rfl rfl (Nat.le_of_ble_eq_true rfl) ?_
  refine b_getp (a := 123) (p := 139) dX9_takesKey_18 fwX9_57 (by decide) rfl (by decide) rfl rfl ?_
  refine a_iload_n (j := 0) dX9_takesKey_21 rfl rfl ?_
  refine a_iconst dX9_takesKey_22 ⟨by decide, by decide⟩ ?_
  refine a_iadd (z := 3) dX9_takesKey_23 (w_ok (by omega) (by omega)) ?_
  refine b_iaload (a := 139) (z := 13) 3 dX9_takesKey_24 (by decide) rfl rfl (by decide) rfl (hC.2 3 (by decide)) (fun r24_1 => ?_)
  refine a_aload_n (j := 1) dX9_takesKey_25 rfl rfl (Nat.le_of_ble_eq_true rfl) ?_
  refine b_getp (a := 123) (p := 139) dX9_takesKey_26 fwX9_57 (by decide) rfl (by decide) rfl rfl ?_
  refine a_iload_n (j := 0) dX9_takesKey_29 rfl rfl ?_
  refine b_iaload (a := 139) (z := 9) 2 dX9_takesKey_30 (by decide) rfl rfl (by decide) rfl (hC.2 2 (by decide)) (fun r30_2 => ?_)
  refine a_isub (z := 4) dX9_takesKey_31 (w_ok (by omega) (by omega)) ?_
  refine a_istore_n (lv' := [(2, vI 4), (1, vI 2), (0, vA 123)]) dX9_takesKey_32 rfl (by decide) rfl ?_
  refine a_iload_n (j := 0) dX9_takesKey_33 rfl rfl ?_
  refine a_aload_n (j := 2) dX9_takesKey_34 rfl rfl (Nat.le_of_ble_eq_true rfl) ?_
  refine b_get (a := 123) (z := ((e : Nat) : Int)) (t := 0) dX9_takesKey_35 fwX9_232 (by decide) rfl (by decide) rfl rfl h18 ?_
  refine a_aload_n (j := 2) dX9_takesKey_38 rfl rfl (Nat.le_of_ble_eq_true rfl) ?_
  refine b_get (a := 123) (z := ((s : Nat) : Int)) (t := 0) dX9_takesKey_39 fwX9_235 (by decide) rfl (by decide) rfl rfl h19 ?_
  refine a_isub (z := (((e : Nat) : Int) - ((s : Nat) : Int))) dX9_takesKey_42 (w_ok (by omega) (by omega)) ?_
  refine a_icmp_ne (tgt := 50) dX9_takesKey_43 (by decide) (fun c43_3 => ?_) (fun c43_3 => ?_)
  · refine a_iconst dX9_takesKey_50 ⟨by decide, by decide⟩ ?_
    refine a_istore_n (lv' := [(3, vI 0), (2, vI 4), (1, vI 2), (0, vA 123)]) dX9_takesKey_51 rfl (by decide) rfl ?_
    refine a_iconst dX9_takesKey_52 ⟨by decide, by decide⟩ ?_
    refine a_istore (lv' := [(4, vI 0), (3, vI 0), (2, vI 4), (1, vI 2), (0, vA 123)]) dX9_takesKey_53 (by decide) rfl ?_
    refine a_iload (j := 0) dX9_takesKey_55 rfl ?_
    refine a_iload_n (j := 2) dX9_takesKey_57 rfl rfl ?_
    refine a_icmp_ge (tgt := 106) dX9_takesKey_58 (by decide) (fun c => absurd c (by decide)) (fun _ => ?_)
    refine a_iload_n (j := 1) dX9_takesKey_61 rfl rfl ?_
    refine a_if_eq (tgt := 106) dX9_takesKey_62 (by decide) (fun _ => ?_) (fun c => absurd c (by decide))
    refine a_iload_n (j := 1) dX9_takesKey_106 rfl rfl ?_
    refine a_if_eq (tgt := 121) dX9_takesKey_107 (by decide) (fun _ => ?_) (fun c => absurd c (by decide))
    refine a_iinc (j := 3) (z' := 3) (lv' := [(1, vI 3), (4, vI 0), (3, vI 0), (2, vI 4), (0, vA 123)]) dX9_takesKey_121 rfl (w_ok (by omega) (by omega)) (by decide) rfl ?_
    refine a_goto (tgt := 12) dX9_takesKey_124 (by decide) ?_
    have hno : ¬ wdS B s e 2 := fun q => by have q := wd_2.mp q; omega
    refine a_lv (lv' := [(1, vI 3), (0, vA 123)]) (by intro q hq; simp only [List.mem_cons, List.not_mem_nil, or_false] at hq ⊢; rcases hq with rfl | rfl <;> simp) (l_tk3 hd hm hBr hC rt hk1 hs he (fun K h1 h2 h3 h4 => kS K (by omega) h2 h3 (fun j h5 h6 => by
        by_cases c : j = 2
        · subst c; exact hno
        · exact h4 j (by omega) h6)) (fun q => kN (fun j h5 h6 => by
        by_cases c : j = 2
        · subst c; exact hno
        · exact q j (by omega) h6)))
  · refine a_iconst dX9_takesKey_46 ⟨by decide, by decide⟩ ?_
    refine a_goto (tgt := 51) dX9_takesKey_47 (by decide) ?_
    refine a_istore_n (lv' := [(3, vI 1), (2, vI 4), (1, vI 2), (0, vA 123)]) dX9_takesKey_51 rfl (by decide) rfl ?_
    refine a_iconst dX9_takesKey_52 ⟨by decide, by decide⟩ ?_
    refine a_istore (lv' := [(4, vI 0), (3, vI 1), (2, vI 4), (1, vI 2), (0, vA 123)]) dX9_takesKey_53 (by decide) rfl ?_
    refine a_iload (j := 0) dX9_takesKey_55 rfl ?_
    refine a_iload_n (j := 2) dX9_takesKey_57 rfl rfl ?_
    refine a_icmp_ge (tgt := 106) dX9_takesKey_58 (by decide) (fun c => absurd c (by decide)) (fun _ => ?_)
    refine a_iload_n (j := 1) dX9_takesKey_61 rfl rfl ?_
    refine a_if_eq (tgt := 106) dX9_takesKey_62 (by decide) (fun c => absurd c (by decide)) (fun _ => ?_)
    refine a_aload_n (j := 4) dX9_takesKey_65 rfl rfl (Nat.le_of_ble_eq_true rfl) ?_
    refine b_getp (a := 123) (p := 137) dX9_takesKey_66 fwX9_50 (by decide) rfl (by decide) rfl rfl ?_
    refine a_aload_n (j := 4) dX9_takesKey_69 rfl rfl (Nat.le_of_ble_eq_true rfl) ?_
    refine b_get (a := 123) (z := ((s : Nat) : Int)) (t := 0) dX9_takesKey_70 fwX9_235 (by decide) rfl (by decide) rfl rfl h19 ?_
    refine a_iload (j := 0) dX9_takesKey_73 rfl ?_
    refine a_iadd (z := ((s : Nat) : Int) + 0) dX9_takesKey_75 (w_ok (by omega) (by omega)) ?_
    refine b_iaload (a := 137) (z := (B s)) s dX9_takesKey_76 (by decide) rfl (by omega) (by omega) (sp_nil rfl _) (hB s (by omega)) (fun r76_4 => ?_)
    refine a_aload_n (j := 4) dX9_takesKey_77 rfl rfl (Nat.le_of_ble_eq_true rfl) ?_
    refine b_getp (a := 123) (p := 138) dX9_takesKey_78 fwX9_53 (by decide) rfl (by decide) rfl rfl ?_
    refine a_aload_n (j := 4) dX9_takesKey_81 rfl rfl (Nat.le_of_ble_eq_true rfl) ?_
    refine b_getp (a := 123) (p := 139) dX9_takesKey_82 fwX9_57 (by decide) rfl (by decide) rfl rfl ?_
    refine a_iload_n (j := 3) dX9_takesKey_85 rfl rfl ?_
    refine b_iaload (a := 139) (z := 9) 2 dX9_takesKey_86 (by decide) rfl rfl (by decide) rfl (hC.2 2 (by decide)) (fun r86_5 => ?_)
    refine a_iload (j := 0) dX9_takesKey_87 rfl ?_
    refine a_iadd (z := 9) dX9_takesKey_89 (w_ok (by omega) (by omega)) ?_
    refine b_caload (a := 138) (z := 119) 9 dX9_takesKey_90 (by decide) rfl rfl (by decide) rfl (hC.1 9 (by decide)) (fun r90_6 => ?_)
    refine a_icmp_ne (tgt := 98) dX9_takesKey_91 (by decide) (fun c91_7 => ?_) (fun c91_7 => ?_)
    · refine a_iconst dX9_takesKey_98 ⟨by decide, by decide⟩ ?_
      refine a_istore_n (lv' := [(3, vI 0), (4, vI 0), (2, vI 4), (1, vI 2), (0, vA 123)]) dX9_takesKey_99 rfl (by decide) rfl ?_
      refine a_iinc (j := 1) (z' := 1) (lv' := [(4, vI 1), (3, vI 0), (2, vI 4), (1, vI 2), (0, vA 123)]) dX9_takesKey_100 rfl (w_ok (by omega) (by omega)) (by decide) rfl ?_
      refine a_goto (tgt := 55) dX9_takesKey_103 (by decide) ?_
      refine a_iload (j := 0) dX9_takesKey_55 rfl ?_
      refine a_iload_n (j := 2) dX9_takesKey_57 rfl rfl ?_
      refine a_icmp_ge (tgt := 106) dX9_takesKey_58 (by decide) (fun c => absurd c (by decide)) (fun _ => ?_)
      refine a_iload_n (j := 1) dX9_takesKey_61 rfl rfl ?_
      refine a_if_eq (tgt := 106) dX9_takesKey_62 (by decide) (fun _ => ?_) (fun c => absurd c (by decide))
      refine a_iload_n (j := 1) dX9_takesKey_106 rfl rfl ?_
      refine a_if_eq (tgt := 121) dX9_takesKey_107 (by decide) (fun _ => ?_) (fun c => absurd c (by decide))
      refine a_iinc (j := 3) (z' := 3) (lv' := [(1, vI 3), (4, vI 1), (3, vI 0), (2, vI 4), (0, vA 123)]) dX9_takesKey_121 rfl (w_ok (by omega) (by omega)) (by decide) rfl ?_
      refine a_goto (tgt := 12) dX9_takesKey_124 (by decide) ?_
      have hno : ¬ wdS B s e 2 := fun q => by have q := wd_2.mp q; omega
      refine a_lv (lv' := [(1, vI 3), (0, vA 123)]) (by intro q hq; simp only [List.mem_cons, List.not_mem_nil, or_false] at hq ⊢; rcases hq with rfl | rfl <;> simp) (l_tk3 hd hm hBr hC rt hk1 hs he (fun K h1 h2 h3 h4 => kS K (by omega) h2 h3 (fun j h5 h6 => by
        by_cases c : j = 2
        · subst c; exact hno
        · exact h4 j (by omega) h6)) (fun q => kN (fun j h5 h6 => by
        by_cases c : j = 2
        · subst c; exact hno
        · exact q j (by omega) h6)))
    · refine a_iconst dX9_takesKey_94 ⟨by decide, by decide⟩ ?_
      refine a_goto (tgt := 99) dX9_takesKey_95 (by decide) ?_
      refine a_istore_n (lv' := [(3, vI 1), (4, vI 0), (2, vI 4), (1, vI 2), (0, vA 123)]) dX9_takesKey_99 rfl (by decide) rfl ?_
      refine a_iinc (j := 1) (z' := 1) (lv' := [(4, vI 1), (3, vI 1), (2, vI 4), (1, vI 2), (0, vA 123)]) dX9_takesKey_100 rfl (w_ok (by omega) (by omega)) (by decide) rfl ?_
      refine a_goto (tgt := 55) dX9_takesKey_103 (by decide) ?_
      refine a_iload (j := 0) dX9_takesKey_55 rfl ?_
      refine a_iload_n (j := 2) dX9_takesKey_57 rfl rfl ?_
      refine a_icmp_ge (tgt := 106) dX9_takesKey_58 (by decide) (fun c => absurd c (by decide)) (fun _ => ?_)
      refine a_iload_n (j := 1) dX9_takesKey_61 rfl rfl ?_
      refine a_if_eq (tgt := 106) dX9_takesKey_62 (by decide) (fun c => absurd c (by decide)) (fun _ => ?_)
      refine a_aload_n (j := 4) dX9_takesKey_65 rfl rfl (Nat.le_of_ble_eq_true rfl) ?_
      refine b_getp (a := 123) (p := 137) dX9_takesKey_66 fwX9_50 (by decide) rfl (by decide) rfl rfl ?_
      refine a_aload_n (j := 4) dX9_takesKey_69 rfl rfl (Nat.le_of_ble_eq_true rfl) ?_
      refine b_get (a := 123) (z := ((s : Nat) : Int)) (t := 0) dX9_takesKey_70 fwX9_235 (by decide) rfl (by decide) rfl rfl h19 ?_
      refine a_iload (j := 0) dX9_takesKey_73 rfl ?_
      refine a_iadd (z := (((s : Nat) : Int) + 1)) dX9_takesKey_75 (w_ok (by omega) (by omega)) ?_
      refine b_iaload (a := 137) (z := (B (1 + s))) (1 + s) dX9_takesKey_76 (by decide) rfl (by omega) (by omega) (sp_nil rfl _) (hB (1 + s) (by omega)) (fun r76_8 => ?_)
      refine a_aload_n (j := 4) dX9_takesKey_77 rfl rfl (Nat.le_of_ble_eq_true rfl) ?_
      refine b_getp (a := 123) (p := 138) dX9_takesKey_78 fwX9_53 (by decide) rfl (by decide) rfl rfl ?_
      refine a_aload_n (j := 4) dX9_takesKey_81 rfl rfl (Nat.le_of_ble_eq_true rfl) ?_
      refine b_getp (a := 123) (p := 139) dX9_takesKey_82 fwX9_57 (by decide) rfl (by decide) rfl rfl ?_
      refine a_iload_n (j := 3) dX9_takesKey_85 rfl rfl ?_
      refine b_iaload (a := 139) (z := 9) 2 dX9_takesKey_86 (by decide) rfl rfl (by decide) rfl (hC.2 2 (by decide)) (fun r86_9 => ?_)
      refine a_iload (j := 0) dX9_takesKey_87 rfl ?_
      refine a_iadd (z := 10) dX9_takesKey_89 (w_ok (by omega) (by omega)) ?_
      refine b_caload (a := 138) (z := 97) 10 dX9_takesKey_90 (by decide) rfl rfl (by decide) rfl (hC.1 10 (by decide)) (fun r90_10 => ?_)
      refine a_icmp_ne (tgt := 98) dX9_takesKey_91 (by decide) (fun c91_11 => ?_) (fun c91_11 => ?_)
      · refine a_iconst dX9_takesKey_98 ⟨by decide, by decide⟩ ?_
        refine a_istore_n (lv' := [(3, vI 0), (4, vI 1), (2, vI 4), (1, vI 2), (0, vA 123)]) dX9_takesKey_99 rfl (by decide) rfl ?_
        refine a_iinc (j := 1) (z' := 2) (lv' := [(4, vI 2), (3, vI 0), (2, vI 4), (1, vI 2), (0, vA 123)]) dX9_takesKey_100 rfl (w_ok (by omega) (by omega)) (by decide) rfl ?_
        refine a_goto (tgt := 55) dX9_takesKey_103 (by decide) ?_
        refine a_iload (j := 0) dX9_takesKey_55 rfl ?_
        refine a_iload_n (j := 2) dX9_takesKey_57 rfl rfl ?_
        refine a_icmp_ge (tgt := 106) dX9_takesKey_58 (by decide) (fun c => absurd c (by decide)) (fun _ => ?_)
        refine a_iload_n (j := 1) dX9_takesKey_61 rfl rfl ?_
        refine a_if_eq (tgt := 106) dX9_takesKey_62 (by decide) (fun _ => ?_) (fun c => absurd c (by decide))
        refine a_iload_n (j := 1) dX9_takesKey_106 rfl rfl ?_
        refine a_if_eq (tgt := 121) dX9_takesKey_107 (by decide) (fun _ => ?_) (fun c => absurd c (by decide))
        refine a_iinc (j := 3) (z' := 3) (lv' := [(1, vI 3), (4, vI 2), (3, vI 0), (2, vI 4), (0, vA 123)]) dX9_takesKey_121 rfl (w_ok (by omega) (by omega)) (by decide) rfl ?_
        refine a_goto (tgt := 12) dX9_takesKey_124 (by decide) ?_
        have hno : ¬ wdS B s e 2 := fun q => by have q := wd_2.mp q; omega
        refine a_lv (lv' := [(1, vI 3), (0, vA 123)]) (by intro q hq; simp only [List.mem_cons, List.not_mem_nil, or_false] at hq ⊢; rcases hq with rfl | rfl <;> simp) (l_tk3 hd hm hBr hC rt hk1 hs he (fun K h1 h2 h3 h4 => kS K (by omega) h2 h3 (fun j h5 h6 => by
        by_cases c : j = 2
        · subst c; exact hno
        · exact h4 j (by omega) h6)) (fun q => kN (fun j h5 h6 => by
        by_cases c : j = 2
        · subst c; exact hno
        · exact q j (by omega) h6)))
      · refine a_iconst dX9_takesKey_94 ⟨by decide, by decide⟩ ?_
        refine a_goto (tgt := 99) dX9_takesKey_95 (by decide) ?_
        refine a_istore_n (lv' := [(3, vI 1), (4, vI 1), (2, vI 4), (1, vI 2), (0, vA 123)]) dX9_takesKey_99 rfl (by decide) rfl ?_
        refine a_iinc (j := 1) (z' := 2) (lv' := [(4, vI 2), (3, vI 1), (2, vI 4), (1, vI 2), (0, vA 123)]) dX9_takesKey_100 rfl (w_ok (by omega) (by omega)) (by decide) rfl ?_
        refine a_goto (tgt := 55) dX9_takesKey_103 (by decide) ?_
        refine a_iload (j := 0) dX9_takesKey_55 rfl ?_
        refine a_iload_n (j := 2) dX9_takesKey_57 rfl rfl ?_
        refine a_icmp_ge (tgt := 106) dX9_takesKey_58 (by decide) (fun c => absurd c (by decide)) (fun _ => ?_)
        refine a_iload_n (j := 1) dX9_takesKey_61 rfl rfl ?_
        refine a_if_eq (tgt := 106) dX9_takesKey_62 (by decide) (fun c => absurd c (by decide)) (fun _ => ?_)
        refine a_aload_n (j := 4) dX9_takesKey_65 rfl rfl (Nat.le_of_ble_eq_true rfl) ?_
        refine b_getp (a := 123) (p := 137) dX9_takesKey_66 fwX9_50 (by decide) rfl (by decide) rfl rfl ?_
        refine a_aload_n (j := 4) dX9_takesKey_69 rfl rfl (Nat.le_of_ble_eq_true rfl) ?_
        refine b_get (a := 123) (z := ((s : Nat) : Int)) (t := 0) dX9_takesKey_70 fwX9_235 (by decide) rfl (by decide) rfl rfl h19 ?_
        refine a_iload (j := 0) dX9_takesKey_73 rfl ?_
        refine a_iadd (z := (((s : Nat) : Int) + 2)) dX9_takesKey_75 (w_ok (by omega) (by omega)) ?_
        refine b_iaload (a := 137) (z := (B (2 + s))) (2 + s) dX9_takesKey_76 (by decide) rfl (by omega) (by omega) (sp_nil rfl _) (hB (2 + s) (by omega)) (fun r76_12 => ?_)
        refine a_aload_n (j := 4) dX9_takesKey_77 rfl rfl (Nat.le_of_ble_eq_true rfl) ?_
        refine b_getp (a := 123) (p := 138) dX9_takesKey_78 fwX9_53 (by decide) rfl (by decide) rfl rfl ?_
        refine a_aload_n (j := 4) dX9_takesKey_81 rfl rfl (Nat.le_of_ble_eq_true rfl) ?_
        refine b_getp (a := 123) (p := 139) dX9_takesKey_82 fwX9_57 (by decide) rfl (by decide) rfl rfl ?_
        refine a_iload_n (j := 3) dX9_takesKey_85 rfl rfl ?_
        refine b_iaload (a := 139) (z := 9) 2 dX9_takesKey_86 (by decide) rfl rfl (by decide) rfl (hC.2 2 (by decide)) (fun r86_13 => ?_)
        refine a_iload (j := 0) dX9_takesKey_87 rfl ?_
        refine a_iadd (z := 11) dX9_takesKey_89 (w_ok (by omega) (by omega)) ?_
        refine b_caload (a := 138) (z := 108) 11 dX9_takesKey_90 (by decide) rfl rfl (by decide) rfl (hC.1 11 (by decide)) (fun r90_14 => ?_)
        refine a_icmp_ne (tgt := 98) dX9_takesKey_91 (by decide) (fun c91_15 => ?_) (fun c91_15 => ?_)
        · refine a_iconst dX9_takesKey_98 ⟨by decide, by decide⟩ ?_
          refine a_istore_n (lv' := [(3, vI 0), (4, vI 2), (2, vI 4), (1, vI 2), (0, vA 123)]) dX9_takesKey_99 rfl (by decide) rfl ?_
          refine a_iinc (j := 1) (z' := 3) (lv' := [(4, vI 3), (3, vI 0), (2, vI 4), (1, vI 2), (0, vA 123)]) dX9_takesKey_100 rfl (w_ok (by omega) (by omega)) (by decide) rfl ?_
          refine a_goto (tgt := 55) dX9_takesKey_103 (by decide) ?_
          refine a_iload (j := 0) dX9_takesKey_55 rfl ?_
          refine a_iload_n (j := 2) dX9_takesKey_57 rfl rfl ?_
          refine a_icmp_ge (tgt := 106) dX9_takesKey_58 (by decide) (fun c => absurd c (by decide)) (fun _ => ?_)
          refine a_iload_n (j := 1) dX9_takesKey_61 rfl rfl ?_
          refine a_if_eq (tgt := 106) dX9_takesKey_62 (by decide) (fun _ => ?_) (fun c => absurd c (by decide))
          refine a_iload_n (j := 1) dX9_takesKey_106 rfl rfl ?_
          refine a_if_eq (tgt := 121) dX9_takesKey_107 (by decide) (fun _ => ?_) (fun c => absurd c (by decide))
          refine a_iinc (j := 3) (z' := 3) (lv' := [(1, vI 3), (4, vI 3), (3, vI 0), (2, vI 4), (0, vA 123)]) dX9_takesKey_121 rfl (w_ok (by omega) (by omega)) (by decide) rfl ?_
          refine a_goto (tgt := 12) dX9_takesKey_124 (by decide) ?_
          have hno : ¬ wdS B s e 2 := fun q => by have q := wd_2.mp q; omega
          refine a_lv (lv' := [(1, vI 3), (0, vA 123)]) (by intro q hq; simp only [List.mem_cons, List.not_mem_nil, or_false] at hq ⊢; rcases hq with rfl | rfl <;> simp) (l_tk3 hd hm hBr hC rt hk1 hs he (fun K h1 h2 h3 h4 => kS K (by omega) h2 h3 (fun j h5 h6 => by
        by_cases c : j = 2
        · subst c; exact hno
        · exact h4 j (by omega) h6)) (fun q => kN (fun j h5 h6 => by
        by_cases c : j = 2
        · subst c; exact hno
        · exact q j (by omega) h6)))
        · refine a_iconst dX9_takesKey_94 ⟨by decide, by decide⟩ ?_
          refine a_goto (tgt := 99) dX9_takesKey_95 (by decide) ?_
          refine a_istore_n (lv' := [(3, vI 1), (4, vI 2), (2, vI 4), (1, vI 2), (0, vA 123)]) dX9_takesKey_99 rfl (by decide) rfl ?_
          refine a_iinc (j := 1) (z' := 3) (lv' := [(4, vI 3), (3, vI 1), (2, vI 4), (1, vI 2), (0, vA 123)]) dX9_takesKey_100 rfl (w_ok (by omega) (by omega)) (by decide) rfl ?_
          refine a_goto (tgt := 55) dX9_takesKey_103 (by decide) ?_
          refine a_iload (j := 0) dX9_takesKey_55 rfl ?_
          refine a_iload_n (j := 2) dX9_takesKey_57 rfl rfl ?_
          refine a_icmp_ge (tgt := 106) dX9_takesKey_58 (by decide) (fun c => absurd c (by decide)) (fun _ => ?_)
          refine a_iload_n (j := 1) dX9_takesKey_61 rfl rfl ?_
          refine a_if_eq (tgt := 106) dX9_takesKey_62 (by decide) (fun c => absurd c (by decide)) (fun _ => ?_)
          refine a_aload_n (j := 4) dX9_takesKey_65 rfl rfl (Nat.le_of_ble_eq_true rfl) ?_
          refine b_getp (a := 123) (p := 137) dX9_takesKey_66 fwX9_50 (by decide) rfl (by decide) rfl rfl ?_
          refine a_aload_n (j := 4) dX9_takesKey_69 rfl rfl (Nat.le_of_ble_eq_true rfl) ?_
          refine b_get (a := 123) (z := ((s : Nat) : Int)) (t := 0) dX9_takesKey_70 fwX9_235 (by decide) rfl (by decide) rfl rfl h19 ?_
          refine a_iload (j := 0) dX9_takesKey_73 rfl ?_
          refine a_iadd (z := (((s : Nat) : Int) + 3)) dX9_takesKey_75 (w_ok (by omega) (by omega)) ?_
          refine b_iaload (a := 137) (z := (B (3 + s))) (3 + s) dX9_takesKey_76 (by decide) rfl (by omega) (by omega) (sp_nil rfl _) (hB (3 + s) (by omega)) (fun r76_16 => ?_)
          refine a_aload_n (j := 4) dX9_takesKey_77 rfl rfl (Nat.le_of_ble_eq_true rfl) ?_
          refine b_getp (a := 123) (p := 138) dX9_takesKey_78 fwX9_53 (by decide) rfl (by decide) rfl rfl ?_
          refine a_aload_n (j := 4) dX9_takesKey_81 rfl rfl (Nat.le_of_ble_eq_true rfl) ?_
          refine b_getp (a := 123) (p := 139) dX9_takesKey_82 fwX9_57 (by decide) rfl (by decide) rfl rfl ?_
          refine a_iload_n (j := 3) dX9_takesKey_85 rfl rfl ?_
          refine b_iaload (a := 139) (z := 9) 2 dX9_takesKey_86 (by decide) rfl rfl (by decide) rfl (hC.2 2 (by decide)) (fun r86_17 => ?_)
          refine a_iload (j := 0) dX9_takesKey_87 rfl ?_
          refine a_iadd (z := 12) dX9_takesKey_89 (w_ok (by omega) (by omega)) ?_
          refine b_caload (a := 138) (z := 107) 12 dX9_takesKey_90 (by decide) rfl rfl (by decide) rfl (hC.1 12 (by decide)) (fun r90_18 => ?_)
          refine a_icmp_ne (tgt := 98) dX9_takesKey_91 (by decide) (fun c91_19 => ?_) (fun c91_19 => ?_)
          · refine a_iconst dX9_takesKey_98 ⟨by decide, by decide⟩ ?_
            refine a_istore_n (lv' := [(3, vI 0), (4, vI 3), (2, vI 4), (1, vI 2), (0, vA 123)]) dX9_takesKey_99 rfl (by decide) rfl ?_
            refine a_iinc (j := 1) (z' := 4) (lv' := [(4, vI 4), (3, vI 0), (2, vI 4), (1, vI 2), (0, vA 123)]) dX9_takesKey_100 rfl (w_ok (by omega) (by omega)) (by decide) rfl ?_
            refine a_goto (tgt := 55) dX9_takesKey_103 (by decide) ?_
            refine a_iload (j := 0) dX9_takesKey_55 rfl ?_
            refine a_iload_n (j := 2) dX9_takesKey_57 rfl rfl ?_
            refine a_icmp_ge (tgt := 106) dX9_takesKey_58 (by decide) (fun _ => ?_) (fun c => absurd c (by decide))
            refine a_iload_n (j := 1) dX9_takesKey_106 rfl rfl ?_
            refine a_if_eq (tgt := 121) dX9_takesKey_107 (by decide) (fun _ => ?_) (fun c => absurd c (by decide))
            refine a_iinc (j := 3) (z' := 3) (lv' := [(1, vI 3), (4, vI 4), (3, vI 0), (2, vI 4), (0, vA 123)]) dX9_takesKey_121 rfl (w_ok (by omega) (by omega)) (by decide) rfl ?_
            refine a_goto (tgt := 12) dX9_takesKey_124 (by decide) ?_
            have hno : ¬ wdS B s e 2 := fun q => by have q := wd_2.mp q; omega
            refine a_lv (lv' := [(1, vI 3), (0, vA 123)]) (by intro q hq; simp only [List.mem_cons, List.not_mem_nil, or_false] at hq ⊢; rcases hq with rfl | rfl <;> simp) (l_tk3 hd hm hBr hC rt hk1 hs he (fun K h1 h2 h3 h4 => kS K (by omega) h2 h3 (fun j h5 h6 => by
        by_cases c : j = 2
        · subst c; exact hno
        · exact h4 j (by omega) h6)) (fun q => kN (fun j h5 h6 => by
        by_cases c : j = 2
        · subst c; exact hno
        · exact q j (by omega) h6)))
          · refine a_iconst dX9_takesKey_94 ⟨by decide, by decide⟩ ?_
            refine a_goto (tgt := 99) dX9_takesKey_95 (by decide) ?_
            refine a_istore_n (lv' := [(3, vI 1), (4, vI 3), (2, vI 4), (1, vI 2), (0, vA 123)]) dX9_takesKey_99 rfl (by decide) rfl ?_
            refine a_iinc (j := 1) (z' := 4) (lv' := [(4, vI 4), (3, vI 1), (2, vI 4), (1, vI 2), (0, vA 123)]) dX9_takesKey_100 rfl (w_ok (by omega) (by omega)) (by decide) rfl ?_
            refine a_goto (tgt := 55) dX9_takesKey_103 (by decide) ?_
            refine a_iload (j := 0) dX9_takesKey_55 rfl ?_
            refine a_iload_n (j := 2) dX9_takesKey_57 rfl rfl ?_
            refine a_icmp_ge (tgt := 106) dX9_takesKey_58 (by decide) (fun _ => ?_) (fun c => absurd c (by decide))
            refine a_iload_n (j := 1) dX9_takesKey_106 rfl rfl ?_
            refine a_if_eq (tgt := 121) dX9_takesKey_107 (by decide) (fun c => absurd c (by decide)) (fun _ => ?_)
            refine a_aload_n (j := 4) dX9_takesKey_110 rfl rfl (Nat.le_of_ble_eq_true rfl) ?_
            refine a_iload_n (j := 3) dX9_takesKey_111 rfl rfl ?_
            refine b_put (a := 123) (v := vI 2) dX9_takesKey_112 pwX9_253 (fun h => nomatch h) (by decide) rfl (by decide) rfl rfl (fit_int _) ?_
            show Aj γ mX9_takesKey d 0 0 Post 115 [(4, vI 4), (3, vI 1), (2, vI 4), (1, vI 2), (0, vA 123)] [] (mk (up2 h 123 23 2) τ)
            refine a_aload_n (j := 4) dX9_takesKey_115 rfl rfl (Nat.le_of_ble_eq_true rfl) ?_
            refine b_callV (d' := d - 1) (mc' := 0) (ms' := 0) (mc1 := 0) (ms1 := 0) (st := []) (b := 123) [] dX9_takesKey_116 mwX9_go lkX9_256 (by decide) rfl rc_X9 rfl (Nat.le_of_ble_eq_true rfl) (by omega) rfl rfl (c_X9_go (B := B) (t := t) (by omega) ((up2_ne (by omega)).trans rt.1) hm (by rw [up2_row (by decide)]; exact rt.2.1) hBr ((up2_ne (by omega)).trans rt.2.2.1) (fun _ => (up2_ne (by omega)).trans (rt.2.2.2.2.2.2.2.1 (Or.inl hk1))) (fun q => absurd (Or.inl hk1) q) rt.2.2.2.2.2.2.2.2.2.2.1 (fun h2 f2 k2 r2 => ?_))
            show Aj γ mX9_takesKey d 0 0 Post 119 [(4, vI 4), (3, vI 1), (2, vI 4), (1, vI 2), (0, vA 123)] [] (mk h2 τ)
            refine a_iconst dX9_takesKey_119 ⟨by decide, by decide⟩ ?_
            exact a_zret dX9_takesKey_120 rfl (by first | exact Or.inl rfl | exact Or.inr rfl | omega) (kS 2 (Nat.le_refl _) (by decide) (wd_2.mpr (by omega)) (fun j h1 h2 => by omega) h2 (Fr_t (Fr_u (by decide) Fr_r) f2) (fun k hk => (k2 k (by omega)).trans (up2_ne (by omega))) ((k2 23 (by decide)).trans up2_at) r2)
set_option maxHeartbeats 8000000 in
theorem l_tk1 {γ : GT} {d : Nat} {B : Nat → Int} {n s e : Nat} {t : Tk} {h : Nat → Nat → Int} {τ : List AC} {Post : Option AV → List AC → Prop} (hd : 3 ≤ d) (hm : n ≤ 96) (hBr : ∀ k, 0 ≤ B k ∧ B k ≤ 255) (hC : CNE h) (rt : RTk B n h t) (hk1 : t.1 = 1) (hs : t.2.1 = s) (he : t.2.2 = e) (kS : ∀ K : Nat, 1 ≤ K → K < 3 → wdS B s e K → (∀ j, 1 ≤ j → j < K → ¬ wdS B s e j) → ∀ h', Fr [123] h h' → (∀ k, (k < 18 ∨ 23 < k) → h' 123 k = h 123 k) → h' 123 23 = ((K : Nat) : Int) → RTk B n h' (nxt B n t) → Post (some (vI 1)) (mk h' τ)) (kN : (∀ j, 1 ≤ j → j < 3 → ¬ wdS B s e j) → Post (some (vI 0)) (mk h τ)) : Aj γ mX9_takesKey d 0 0 Post 12 [(1, vI 1), (0, vA 123)] [] (mk h τ) := by
  have hB := rt.2.1
  have hvl := rt.2.2.2.2.2.2.2.2.2.1
  have hvn := rt.2.2.2.2.2.2.2.2.2.2.1
  have h18 : h 123 18 = ((e : Nat) : Int) := by rw [← he]; exact rt.2.2.1
  have h19 : h 123 19 = ((s : Nat) : Int) := by rw [← hs]; exact rt.2.2.2.1
  refine a_iload_n (j := 0) dX9_takesKey_12 rfl rfl ?_
  refine a_iconst dX9_takesKey_13 ⟨by decide, by decide⟩ ?_
  refine a_icmp_ge (tgt := 127) dX9_takesKey_14 (by decide) (fun c => absurd c (by decide)) (fun _ => ?_)
  refine a_aload_n (j := 1) dX9_takesKey_17 rfl rfl (Nat.le_of_ble_eq_true rfl) ?_
  refine b_getp (a := 123) (p := 139) dX9_takesKey_18 fwX9_57 (by decide) rfl (by decide) rfl rfl ?_
  refine a_iload_n (j := 0) dX9_takesKey_21 rfl rfl ?_
  refine a_iconst dX9_takesKey_22 ⟨by decide, by decide⟩ ?_
  refine a_iadd (z := 2) dX9_takesKey_23 (w_ok (by omega) (by omega)) ?_
  refine b_iaload (a := 139) (z := 9) 2 dX9_takesKey_24 (by decide) rfl rfl (by decide) rfl (hC.2 2 (by decide)) (fun r24_1 => ?_)
  refine a_aload_n (j := 1) dX9_takesKey_25 rfl rfl (Nat.le_of_ble_eq_true rfl) ?_
  refine b_getp (a := 123) (p := 139) dX9_takesKey_26 fwX9_57 (by decide) rfl (by decide) rfl rfl ?_
  refine a_iload_n (j := 0) dX9_takesKey_29 rfl rfl ?_
  refine b_iaload (a := 139) (z := 5) 1 dX9_takesKey_30 (by decide) rfl rfl (by decide) rfl (hC.2 1 (by decide)) (fun r30_2 => ?_)
  refine a_isub (z := 4) dX9_takesKey_31 (w_ok (by omega) (by omega)) ?_
  refine a_istore_n (lv' := [(2, vI 4), (1, vI 1), (0, vA 123)]) dX9_takesKey_32 rfl (by decide) rfl ?_
  refine a_iload_n (j := 0) dX9_takesKey_33 rfl rfl ?_
  refine a_aload_n (j := 2) dX9_takesKey_34 rfl rfl (Nat.le_of_ble_eq_true rfl) ?_
  refine b_get (a := 123) (z := ((e : Nat) : Int)) (t := 0) dX9_takesKey_35 fwX9_232 (by decide) rfl (by decide) rfl rfl h18 ?_
  refine a_aload_n (j := 2) dX9_takesKey_38 rfl rfl (Nat.le_of_ble_eq_true rfl) ?_
  refine b_get (a := 123) (z := ((s : Nat) : Int)) (t := 0) dX9_takesKey_39 fwX9_235 (by decide) rfl (by decide) rfl rfl h19 ?_
  refine a_isub (z := (((e : Nat) : Int) - ((s : Nat) : Int))) dX9_takesKey_42 (w_ok (by omega) (by omega)) ?_
  refine a_icmp_ne (tgt := 50) dX9_takesKey_43 (by decide) (fun c43_3 => ?_) (fun c43_3 => ?_)
  · refine a_iconst dX9_takesKey_50 ⟨by decide, by decide⟩ ?_
    refine a_istore_n (lv' := [(3, vI 0), (2, vI 4), (1, vI 1), (0, vA 123)]) dX9_takesKey_51 rfl (by decide) rfl ?_
    refine a_iconst dX9_takesKey_52 ⟨by decide, by decide⟩ ?_
    refine a_istore (lv' := [(4, vI 0), (3, vI 0), (2, vI 4), (1, vI 1), (0, vA 123)]) dX9_takesKey_53 (by decide) rfl ?_
    refine a_iload (j := 0) dX9_takesKey_55 rfl ?_
    refine a_iload_n (j := 2) dX9_takesKey_57 rfl rfl ?_
    refine a_icmp_ge (tgt := 106) dX9_takesKey_58 (by decide) (fun c => absurd c (by decide)) (fun _ => ?_)
    refine a_iload_n (j := 1) dX9_takesKey_61 rfl rfl ?_
    refine a_if_eq (tgt := 106) dX9_takesKey_62 (by decide) (fun _ => ?_) (fun c => absurd c (by decide))
    refine a_iload_n (j := 1) dX9_takesKey_106 rfl rfl ?_
    refine a_if_eq (tgt := 121) dX9_takesKey_107 (by decide) (fun _ => ?_) (fun c => absurd c (by decide))
    refine a_iinc (j := 3) (z' := 2) (lv' := [(1, vI 2), (4, vI 0), (3, vI 0), (2, vI 4), (0, vA 123)]) dX9_takesKey_121 rfl (w_ok (by omega) (by omega)) (by decide) rfl ?_
    refine a_goto (tgt := 12) dX9_takesKey_124 (by decide) ?_
    have hno : ¬ wdS B s e 1 := fun q => by have q := wd_1.mp q; omega
    refine a_lv (lv' := [(1, vI 2), (0, vA 123)]) (by intro q hq; simp only [List.mem_cons, List.not_mem_nil, or_false] at hq ⊢; rcases hq with rfl | rfl <;> simp) (l_tk2 hd hm hBr hC rt hk1 hs he (fun K h1 h2 h3 h4 => kS K (by omega) h2 h3 (fun j h5 h6 => by
        by_cases c : j = 1
        · subst c; exact hno
        · exact h4 j (by omega) h6)) (fun q => kN (fun j h5 h6 => by
        by_cases c : j = 1
        · subst c; exact hno
        · exact q j (by omega) h6)))
  · refine a_iconst dX9_takesKey_46 ⟨by decide, by decide⟩ ?_
    refine a_goto (tgt := 51) dX9_takesKey_47 (by decide) ?_
    refine a_istore_n (lv' := [(3, vI 1), (2, vI 4), (1, vI 1), (0, vA 123)]) dX9_takesKey_51 rfl (by decide) rfl ?_
    refine a_iconst dX9_takesKey_52 ⟨by decide, by decide⟩ ?_
    refine a_istore (lv' := [(4, vI 0), (3, vI 1), (2, vI 4), (1, vI 1), (0, vA 123)]) dX9_takesKey_53 (by decide) rfl ?_
    refine a_iload (j := 0) dX9_takesKey_55 rfl ?_
    refine a_iload_n (j := 2) dX9_takesKey_57 rfl rfl ?_
    refine a_icmp_ge (tgt := 106) dX9_takesKey_58 (by decide) (fun c => absurd c (by decide)) (fun _ => ?_)
    refine a_iload_n (j := 1) dX9_takesKey_61 rfl rfl ?_
    refine a_if_eq (tgt := 106) dX9_takesKey_62 (by decide) (fun c => absurd c (by decide)) (fun _ => ?_)
    refine a_aload_n (j := 4) dX9_takesKey_65 rfl rfl (Nat.le_of_ble_eq_true rfl) ?_
    refine b_getp (a := 123) (p := 137) dX9_takesKey_66 fwX9_50 (by decide) rfl (by decide) rfl rfl ?_
    refine a_aload_n (j := 4) dX9_takesKey_69 rfl rfl (Nat.le_of_ble_eq_true rfl) ?_
    refine b_get (a := 123) (z := ((s : Nat) : Int)) (t := 0) dX9_takesKey_70 fwX9_235 (by decide) rfl (by decide) rfl rfl h19 ?_
    refine a_iload (j := 0) dX9_takesKey_73 rfl ?_
    refine a_iadd (z := ((s : Nat) : Int) + 0) dX9_takesKey_75 (w_ok (by omega) (by omega)) ?_
    refine b_iaload (a := 137) (z := (B s)) s dX9_takesKey_76 (by decide) rfl (by omega) (by omega) (sp_nil rfl _) (hB s (by omega)) (fun r76_4 => ?_)
    refine a_aload_n (j := 4) dX9_takesKey_77 rfl rfl (Nat.le_of_ble_eq_true rfl) ?_
    refine b_getp (a := 123) (p := 138) dX9_takesKey_78 fwX9_53 (by decide) rfl (by decide) rfl rfl ?_
    refine a_aload_n (j := 4) dX9_takesKey_81 rfl rfl (Nat.le_of_ble_eq_true rfl) ?_
    refine b_getp (a := 123) (p := 139) dX9_takesKey_82 fwX9_57 (by decide) rfl (by decide) rfl rfl ?_
    refine a_iload_n (j := 3) dX9_takesKey_85 rfl rfl ?_
    refine b_iaload (a := 139) (z := 5) 1 dX9_takesKey_86 (by decide) rfl rfl (by decide) rfl (hC.2 1 (by decide)) (fun r86_5 => ?_)
    refine a_iload (j := 0) dX9_takesKey_87 rfl ?_
    refine a_iadd (z := 5) dX9_takesKey_89 (w_ok (by omega) (by omega)) ?_
    refine b_caload (a := 138) (z := 116) 5 dX9_takesKey_90 (by decide) rfl rfl (by decide) rfl (hC.1 5 (by decide)) (fun r90_6 => ?_)
    refine a_icmp_ne (tgt := 98) dX9_takesKey_91 (by decide) (fun c91_7 => ?_) (fun c91_7 => ?_)
    · refine a_iconst dX9_takesKey_98 ⟨by decide, by decide⟩ ?_
      refine a_istore_n (lv' := [(3, vI 0), (4, vI 0), (2, vI 4), (1, vI 1), (0, vA 123)]) dX9_takesKey_99 rfl (by decide) rfl ?_
      refine a_iinc (j := 1) (z' := 1) (lv' := [(4, vI 1), (3, vI 0), (2, vI 4), (1, vI 1), (0, vA 123)]) dX9_takesKey_100 rfl (w_ok (by omega) (by omega)) (by decide) rfl ?_
      refine a_goto (tgt := 55) dX9_takesKey_103 (by decide) ?_
      refine a_iload (j := 0) dX9_takesKey_55 rfl ?_
      refine a_iload_n (j := 2) dX9_takesKey_57 rfl rfl ?_
      refine a_icmp_ge (tgt := 106) dX9_takesKey_58 (by decide) (fun c => absurd c (by decide)) (fun _ => ?_)
      refine a_iload_n (j := 1) dX9_takesKey_61 rfl rfl ?_
      refine a_if_eq (tgt := 106) dX9_takesKey_62 (by decide) (fun _ => ?_) (fun c => absurd c (by decide))
      refine a_iload_n (j := 1) dX9_takesKey_106 rfl rfl ?_
      refine a_if_eq (tgt := 121) dX9_takesKey_107 (by decide) (fun _ => ?_) (fun c => absurd c (by decide))
      refine a_iinc (j := 3) (z' := 2) (lv' := [(1, vI 2), (4, vI 1), (3, vI 0), (2, vI 4), (0, vA 123)]) dX9_takesKey_121 rfl (w_ok (by omega) (by omega)) (by decide) rfl ?_
      refine a_goto (tgt := 12) dX9_takesKey_124 (by decide) ?_
      have hno : ¬ wdS B s e 1 := fun q => by have q := wd_1.mp q; omega
      refine a_lv (lv' := [(1, vI 2), (0, vA 123)]) (by intro q hq; simp only [List.mem_cons, List.not_mem_nil, or_false] at hq ⊢; rcases hq with rfl | rfl <;> simp) (l_tk2 hd hm hBr hC rt hk1 hs he (fun K h1 h2 h3 h4 => kS K (by omega) h2 h3 (fun j h5 h6 => by
        by_cases c : j = 1
        · subst c; exact hno
        · exact h4 j (by omega) h6)) (fun q => kN (fun j h5 h6 => by
        by_cases c : j = 1
        · subst c; exact hno
        · exact q j (by omega) h6)))
    · refine a_iconst dX9_takesKey_94 ⟨by decide, by decide⟩ ?_
      refine a_goto (tgt := 99) dX9_takesKey_95 (by decide) ?_
      refine a_istore_n (lv' := [(3, vI 1), (4, vI 0), (2, vI 4), (1, vI 1), (0, vA 123)]) dX9_takesKey_99 rfl (by decide) rfl ?_
      refine a_iinc (j := 1) (z' := 1) (lv' := [(4, vI 1), (3, vI 1), (2, vI 4), (1, vI 1), (0, vA 123)]) dX9_takesKey_100 rfl (w_ok (by omega) (by omega)) (by decide) rfl ?_
      refine a_goto (tgt := 55) dX9_takesKey_103 (by decide) ?_
      refine a_iload (j := 0) dX9_takesKey_55 rfl ?_
      refine a_iload_n (j := 2) dX9_takesKey_57 rfl rfl ?_
      refine a_icmp_ge (tgt := 106) dX9_takesKey_58 (by decide) (fun c => absurd c (by decide)) (fun _ => ?_)
      refine a_iload_n (j := 1) dX9_takesKey_61 rfl rfl ?_
      refine a_if_eq (tgt := 106) dX9_takesKey_62 (by decide) (fun c => absurd c (by decide)) (fun _ => ?_)
      refine a_aload_n (j := 4) dX9_takesKey_65 rfl rfl (Nat.le_of_ble_eq_true rfl) ?_
      refine b_getp (a := 123) (p := 137) dX9_takesKey_66 fwX9_50 (by decide) rfl (by decide) rfl rfl ?_
      refine a_aload_n (j := 4) dX9_takesKey_69 rfl rfl (Nat.le_of_ble_eq_true rfl) ?_
      refine b_get (a := 123) (z := ((s : Nat) : Int)) (t := 0) dX9_takesKey_70 fwX9_235 (by decide) rfl (by decide) rfl rfl h19 ?_
      refine a_iload (j := 0) dX9_takesKey_73 rfl ?_
      refine a_iadd (z := (((s : Nat) : Int) + 1)) dX9_takesKey_75 (w_ok (by omega) (by omega)) ?_
      refine b_iaload (a := 137) (z := (B (1 + s))) (1 + s) dX9_takesKey_76 (by decide) rfl (by omega) (by omega) (sp_nil rfl _) (hB (1 + s) (by omega)) (fun r76_8 => ?_)
      refine a_aload_n (j := 4) dX9_takesKey_77 rfl rfl (Nat.le_of_ble_eq_true rfl) ?_
      refine b_getp (a := 123) (p := 138) dX9_takesKey_78 fwX9_53 (by decide) rfl (by decide) rfl rfl ?_
      refine a_aload_n (j := 4) dX9_takesKey_81 rfl rfl (Nat.le_of_ble_eq_true rfl) ?_
      refine b_getp (a := 123) (p := 139) dX9_takesKey_82 fwX9_57 (by decide) rfl (by decide) rfl rfl ?_
      refine a_iload_n (j := 3) dX9_takesKey_85 rfl rfl ?_
      refine b_iaload (a := 139) (z := 5) 1 dX9_takesKey_86 (by decide) rfl rfl (by decide) rfl (hC.2 1 (by decide)) (fun r86_9 => ?_)
      refine a_iload (j := 0) dX9_takesKey_87 rfl ?_
      refine a_iadd (z := 6) dX9_takesKey_89 (w_ok (by omega) (by omega)) ?_
      refine b_caload (a := 138) (z := 105) 6 dX9_takesKey_90 (by decide) rfl rfl (by decide) rfl (hC.1 6 (by decide)) (fun r90_10 => ?_)
      refine a_icmp_ne (tgt := 98) dX9_takesKey_91 (by decide) (fun c91_11 => ?_) (fun c91_11 => ?_)
      · refine a_iconst dX9_takesKey_98 ⟨by decide, by decide⟩ ?_
        refine a_istore_n (lv' := [(3, vI 0), (4, vI 1), (2, vI 4), (1, vI 1), (0, vA 123)]) dX9_takesKey_99 rfl (by decide) rfl ?_
        refine a_iinc (j := 1) (z' := 2) (lv' := [(4, vI 2), (3, vI 0), (2, vI 4), (1, vI 1), (0, vA 123)]) dX9_takesKey_100 rfl (w_ok (by omega) (by omega)) (by decide) rfl ?_
        refine a_goto (tgt := 55) dX9_takesKey_103 (by decide) ?_
        refine a_iload (j := 0) dX9_takesKey_55 rfl ?_
        refine a_iload_n (j := 2) dX9_takesKey_57 rfl rfl ?_
        refine a_icmp_ge (tgt := 106) dX9_takesKey_58 (by decide) (fun c => absurd c (by decide)) (fun _ => ?_)
        refine a_iload_n (j := 1) dX9_takesKey_61 rfl rfl ?_
        refine a_if_eq (tgt := 106) dX9_takesKey_62 (by decide) (fun _ => ?_) (fun c => absurd c (by decide))
        refine a_iload_n (j := 1) dX9_takesKey_106 rfl rfl ?_
        refine a_if_eq (tgt := 121) dX9_takesKey_107 (by decide) (fun _ => ?_) (fun c => absurd c (by decide))
        refine a_iinc (j := 3) (z' := 2) (lv' := [(1, vI 2), (4, vI 2), (3, vI 0), (2, vI 4), (0, vA 123)]) dX9_takesKey_121 rfl (w_ok (by omega) (by omega)) (by decide) rfl ?_
        refine a_goto (tgt := 12) dX9_takesKey_124 (by decide) ?_
        have hno : ¬ wdS B s e 1 := fun q => by have q := wd_1.mp q; omega
        refine a_lv (lv' := [(1, vI 2), (0, vA 123)]) (by intro q hq; simp only [List.mem_cons, List.not_mem_nil, or_false] at hq ⊢; rcases hq with rfl | rfl <;> simp) (l_tk2 hd hm hBr hC rt hk1 hs he (fun K h1 h2 h3 h4 => kS K (by omega) h2 h3 (fun j h5 h6 => by
        by_cases c : j = 1
        · subst c; exact hno
        · exact h4 j (by omega) h6)) (fun q => kN (fun j h5 h6 => by
        by_cases c : j = 1
        · subst c; exact hno
        · exact q j (by omega) h6)))
      · refine a_iconst dX9_takesKey_94 ⟨by decide, by decide⟩ ?_
        refine a_goto (tgt := 99) dX9_takesKey_95 (by decide) ?_
        refine a_istore_n (lv' := [(3, vI 1), (4, vI 1), (2, vI 4), (1, vI 1), (0, vA 123)]) dX9_takesKey_99 rfl (by decide) rfl ?_
        refine a_iinc (j := 1) (z' := 2) (lv' := [(4, vI 2), (3, vI 1), (2, vI 4), (1, vI 1), (0, vA 123)]) dX9_takesKey_100 rfl (w_ok (by omega) (by omega)) (by decide) rfl ?_
        refine a_goto (tgt := 55) dX9_takesKey_103 (by decide) ?_
        refine a_iload (j := 0) dX9_takesKey_55 rfl ?_
        refine a_iload_n (j := 2) dX9_takesKey_57 rfl rfl ?_
        refine a_icmp_ge (tgt := 106) dX9_takesKey_58 (by decide) (fun c => absurd c (by decide)) (fun _ => ?_)
        refine a_iload_n (j := 1) dX9_takesKey_61 rfl rfl ?_
        refine a_if_eq (tgt := 106) dX9_takesKey_62 (by decide) (fun c => absurd c (by decide)) (fun _ => ?_)
        refine a_aload_n (j := 4) dX9_takesKey_65 rfl rfl (Nat.le_of_ble_eq_true rfl) ?_
        refine b_getp (a := 123) (p := 137) dX9_takesKey_66 fwX9_50 (by decide) rfl (by decide) rfl rfl ?_
        refine a_aload_n (j := 4) dX9_takesKey_69 rfl rfl (Nat.le_of_ble_eq_true rfl) ?_
        refine b_get (a := 123) (z := ((s : Nat) : Int)) (t := 0) dX9_takesKey_70 fwX9_235 (by decide) rfl (by decide) rfl rfl h19 ?_
        refine a_iload (j := 0) dX9_takesKey_73 rfl ?_
        refine a_iadd (z := (((s : Nat) : Int) + 2)) dX9_takesKey_75 (w_ok (by omega) (by omega)) ?_
        refine b_iaload (a := 137) (z := (B (2 + s))) (2 + s) dX9_takesKey_76 (by decide) rfl (by omega) (by omega) (sp_nil rfl _) (hB (2 + s) (by omega)) (fun r76_12 => ?_)
        refine a_aload_n (j := 4) dX9_takesKey_77 rfl rfl (Nat.le_of_ble_eq_true rfl) ?_
        refine b_getp (a := 123) (p := 138) dX9_takesKey_78 fwX9_53 (by decide) rfl (by decide) rfl rfl ?_
        refine a_aload_n (j := 4) dX9_takesKey_81 rfl rfl (Nat.le_of_ble_eq_true rfl) ?_
        refine b_getp (a := 123) (p := 139) dX9_takesKey_82 fwX9_57 (by decide) rfl (by decide) rfl rfl ?_
        refine a_iload_n (j := 3) dX9_takesKey_85 rfl rfl ?_
        refine b_iaload (a := 139) (z := 5) 1 dX9_takesKey_86 (by decide) rfl rfl (by decide) rfl (hC.2 1 (by decide)) (fun r86_13 => ?_)
        refine a_iload (j := 0) dX9_takesKey_87 rfl ?_
        refine a_iadd (z := 7) dX9_takesKey_89 (w_ok (by omega) (by omega)) ?_
        refine b_caload (a := 138) (z := 100) 7 dX9_takesKey_90 (by decide) rfl rfl (by decide) rfl (hC.1 7 (by decide)) (fun r90_14 => ?_)
        refine a_icmp_ne (tgt := 98) dX9_takesKey_91 (by decide) (fun c91_15 => ?_) (fun c91_15 => ?_)
        · refine a_iconst dX9_takesKey_98 ⟨by decide, by decide⟩ ?_
          refine a_istore_n (lv' := [(3, vI 0), (4, vI 2), (2, vI 4), (1, vI 1), (0, vA 123)]) dX9_takesKey_99 rfl (by decide) rfl ?_
          refine a_iinc (j := 1) (z' := 3) (lv' := [(4, vI 3), (3, vI 0), (2, vI 4), (1, vI 1), (0, vA 123)]) dX9_takesKey_100 rfl (w_ok (by omega) (by omega)) (by decide) rfl ?_
          refine a_goto (tgt := 55) dX9_takesKey_103 (by decide) ?_
          refine a_iload (j := 0) dX9_takesKey_55 rfl ?_
          refine a_iload_n (j := 2) dX9_takesKey_57 rfl rfl ?_
          refine a_icmp_ge (tgt := 106) dX9_takesKey_58 (by decide) (fun c => absurd c (by decide)) (fun _ => ?_)
          refine a_iload_n (j := 1) dX9_takesKey_61 rfl rfl ?_
          refine a_if_eq (tgt := 106) dX9_takesKey_62 (by decide) (fun _ => ?_) (fun c => absurd c (by decide))
          refine a_iload_n (j := 1) dX9_takesKey_106 rfl rfl ?_
          refine a_if_eq (tgt := 121) dX9_takesKey_107 (by decide) (fun _ => ?_) (fun c => absurd c (by decide))
          refine a_iinc (j := 3) (z' := 2) (lv' := [(1, vI 2), (4, vI 3), (3, vI 0), (2, vI 4), (0, vA 123)]) dX9_takesKey_121 rfl (w_ok (by omega) (by omega)) (by decide) rfl ?_
          refine a_goto (tgt := 12) dX9_takesKey_124 (by decide) ?_
          have hno : ¬ wdS B s e 1 := fun q => by have q := wd_1.mp q; omega
          refine a_lv (lv' := [(1, vI 2), (0, vA 123)]) (by intro q hq; simp only [List.mem_cons, List.not_mem_nil, or_false] at hq ⊢; rcases hq with rfl | rfl <;> simp) (l_tk2 hd hm hBr hC rt hk1 hs he (fun K h1 h2 h3 h4 => kS K (by omega) h2 h3 (fun j h5 h6 => by
        by_cases c : j = 1
        · subst c; exact hno
        · exact h4 j (by omega) h6)) (fun q => kN (fun j h5 h6 => by
        by_cases c : j = 1
        · subst c; exact hno
        · exact q j (by omega) h6)))
        · refine a_iconst dX9_takesKey_94 ⟨by decide, by decide⟩ ?_
          refine a_goto (tgt := 99) dX9_takesKey_95 (by decide) ?_
          refine a_istore_n (lv' := [(3, vI 1), (4, vI 2), (2, vI 4), (1, vI 1), (0, vA 123)]) dX9_takesKey_99 rfl (by decide) rfl ?_
          refine a_iinc (j := 1) (z' := 3) (lv' := [(4, vI 3), (3, vI 1), (2, vI 4), (1, vI 1), (0, vA 123)]) dX9_takesKey_100 rfl (w_ok (by omega) (by omega)) (by decide) rfl ?_
          refine a_goto (tgt := 55) dX9_takesKey_103 (by decide) ?_
          refine a_iload (j := 0) dX9_takesKey_55 rfl ?_
          refine a_iload_n (j := 2) dX9_takesKey_57 rfl rfl ?_
          refine a_icmp_ge (tgt := 106) dX9_takesKey_58 (by decide) (fun c => absurd c (by decide)) (fun _ => ?_)
          refine a_iload_n (j := 1) dX9_takesKey_61 rfl rfl ?_
          refine a_if_eq (tgt := 106) dX9_takesKey_62 (by decide) (fun c => absurd c (by decide)) (fun _ => ?_)
          refine a_aload_n (j := 4) dX9_takesKey_65 rfl rfl (Nat.le_of_ble_eq_true rfl) ?_
          refine b_getp (a := 123) (p := 137) dX9_takesKey_66 fwX9_50 (by decide) rfl (by decide) rfl rfl ?_
          refine a_aload_n (j := 4) dX9_takesKey_69 rfl rfl (Nat.le_of_ble_eq_true rfl) ?_
          refine b_get (a := 123) (z := ((s : Nat) : Int)) (t := 0) dX9_takesKey_70 fwX9_235 (by decide) rfl (by decide) rfl rfl h19 ?_
          refine a_iload (j := 0) dX9_takesKey_73 rfl ?_
          refine a_iadd (z := (((s : Nat) : Int) + 3)) dX9_takesKey_75 (w_ok (by omega) (by omega)) ?_
          refine b_iaload (a := 137) (z := (B (3 + s))) (3 + s) dX9_takesKey_76 (by decide) rfl (by omega) (by omega) (sp_nil rfl _) (hB (3 + s) (by omega)) (fun r76_16 => ?_)
          refine a_aload_n (j := 4) dX9_takesKey_77 rfl rfl (Nat.le_of_ble_eq_true rfl) ?_
          refine b_getp (a := 123) (p := 138) dX9_takesKey_78 fwX9_53 (by decide) rfl (by decide) rfl rfl ?_
          refine a_aload_n (j := 4) dX9_takesKey_81 rfl rfl (Nat.le_of_ble_eq_true rfl) ?_
          refine b_getp (a := 123) (p := 139) dX9_takesKey_82 fwX9_57 (by decide) rfl (by decide) rfl rfl ?_
          refine a_iload_n (j := 3) dX9_takesKey_85 rfl rfl ?_
          refine b_iaload (a := 139) (z := 5) 1 dX9_takesKey_86 (by decide) rfl rfl (by decide) rfl (hC.2 1 (by decide)) (fun r86_17 => ?_)
          refine a_iload (j := 0) dX9_takesKey_87 rfl ?_
          refine a_iadd (z := 8) dX9_takesKey_89 (w_ok (by omega) (by omega)) ?_
          refine b_caload (a := 138) (z := 101) 8 dX9_takesKey_90 (by decide) rfl rfl (by decide) rfl (hC.1 8 (by decide)) (fun r90_18 => ?_)
          refine a_icmp_ne (tgt := 98) dX9_takesKey_91 (by decide) (fun c91_19 => ?_) (fun c91_19 => ?_)
          · refine a_iconst dX9_takesKey_98 ⟨by decide, by decide⟩ ?_
            refine a_istore_n (lv' := [(3, vI 0), (4, vI 3), (2, vI 4), (1, vI 1), (0, vA 123)]) dX9_takesKey_99 rfl (by decide) rfl ?_
            refine a_iinc (j := 1) (z' := 4) (lv' := [(4, vI 4), (3, vI 0), (2, vI 4), (1, vI 1), (0, vA 123)]) dX9_takesKey_100 rfl (w_ok (by omega) (by omega)) (by decide) rfl ?_
            refine a_goto (tgt := 55) dX9_takesKey_103 (by decide) ?_
            refine a_iload (j := 0) dX9_takesKey_55 rfl ?_
            refine a_iload_n (j := 2) dX9_takesKey_57 rfl rfl ?_
            refine a_icmp_ge (tgt := 106) dX9_takesKey_58 (by decide) (fun _ => ?_) (fun c => absurd c (by decide))
            refine a_iload_n (j := 1) dX9_takesKey_106 rfl rfl ?_
            refine a_if_eq (tgt := 121) dX9_takesKey_107 (by decide) (fun _ => ?_) (fun c => absurd c (by decide))
            refine a_iinc (j := 3) (z' := 2) (lv' := [(1, vI 2), (4, vI 4), (3, vI 0), (2, vI 4), (0, vA 123)]) dX9_takesKey_121 rfl (w_ok (by omega) (by omega)) (by decide) rfl ?_
            refine a_goto (tgt := 12) dX9_takesKey_124 (by decide) ?_
            have hno : ¬ wdS B s e 1 := fun q => by have q := wd_1.mp q; omega
            refine a_lv (lv' := [(1, vI 2), (0, vA 123)]) (by intro q hq; simp only [List.mem_cons, List.not_mem_nil, or_false] at hq ⊢; rcases hq with rfl | rfl <;> simp) (l_tk2 hd hm hBr hC rt hk1 hs he (fun K h1 h2 h3 h4 => kS K (by omega) h2 h3 (fun j h5 h6 => by
        by_cases c : j = 1
        · subst c; exact hno
        · exact h4 j (by omega) h6)) (fun q => kN (fun j h5 h6 => by
        by_cases c : j = 1
        · subst c; exact hno
        · exact q j (by omega) h6)))
          · refine a_iconst dX9_takesKey_94 ⟨by decide, by decide⟩ ?_
            refine a_goto (tgt := 99) dX9_takesKey_95 (by decide) ?_
            refine a_istore_n (lv' := [(3, vI 1), (4, vI 3), (2, vI 4), (1, vI 1), (0, vA 123)]) dX9_takesKey_99 rfl (by decide) rfl ?_
            refine a_iinc (j := 1) (z' := 4) (lv' := [(4, vI 4), (3, vI 1), (2, vI 4), (1, vI 1), (0, vA 123)]) dX9_takesKey_100 rfl (w_ok (by omega) (by omega)) (by decide) rfl ?_
            refine a_goto (tgt := 55) dX9_takesKey_103 (by decide) ?_
            refine a_iload (j := 0) dX9_takesKey_55 rfl ?_
            refine a_iload_n (j := 2) dX9_takesKey_57 rfl rfl ?_
            refine a_icmp_ge (tgt := 106) dX9_takesKey_58 (by decide) (fun _ => ?_) (fun c => absurd c (by decide))
            refine a_iload_n (j := 1) dX9_takesKey_106 rfl rfl ?_
            refine a_if_eq (tgt := 121) dX9_takesKey_107 (by decide) (fun c => absurd c (by decide)) (fun _ => ?_)
            refine a_aload_n (j := 4) dX9_takesKey_110 rfl rfl (Nat.le_of_ble_eq_true rfl) ?_
            refine a_iload_n (j := 3) dX9_takesKey_111 rfl rfl ?_
            refine b_put (a := 123) (v := vI 1) dX9_takesKey_112 pwX9_253 (fun h => nomatch h) (by decide) rfl (by decide) rfl rfl (fit_int _) ?_
            show Aj γ mX9_takesKey d 0 0 Post 115 [(4, vI 4), (3, vI 1), (2, vI 4), (1, vI 1), (0, vA 123)] [] (mk (up2 h 123 23 1) τ)
            refine a_aload_n (j := 4) dX9_takesKey_115 rfl rfl (Nat.le_of_ble_eq_true rfl) ?_
            refine b_callV (d' := d - 1) (mc' := 0) (ms' := 0) (mc1 := 0) (ms1 := 0) (st := []) (b := 123) [] dX9_takesKey_116 mwX9_go lkX9_256 (by decide) rfl rc_X9 rfl (Nat.le_of_ble_eq_true rfl) (by omega) rfl rfl (c_X9_go (B := B) (t := t) (by omega) ((up2_ne (by omega)).trans rt.1) hm (by rw [up2_row (by decide)]; exact rt.2.1) hBr ((up2_ne (by omega)).trans rt.2.2.1) (fun _ => (up2_ne (by omega)).trans (rt.2.2.2.2.2.2.2.1 (Or.inl hk1))) (fun q => absurd (Or.inl hk1) q) rt.2.2.2.2.2.2.2.2.2.2.1 (fun h2 f2 k2 r2 => ?_))
            show Aj γ mX9_takesKey d 0 0 Post 119 [(4, vI 4), (3, vI 1), (2, vI 4), (1, vI 1), (0, vA 123)] [] (mk h2 τ)
            refine a_iconst dX9_takesKey_119 ⟨by decide, by decide⟩ ?_
            exact a_zret dX9_takesKey_120 rfl (by first | exact Or.inl rfl | exact Or.inr rfl | omega) (kS 1 (Nat.le_refl _) (by decide) (wd_1.mpr (by omega)) (fun j h1 h2 => by omega) h2 (Fr_t (Fr_u (by decide) Fr_r) f2) (fun k hk => (k2 k (by omega)).trans (up2_ne (by omega))) ((k2 23 (by decide)).trans up2_at) r2)
set_option maxHeartbeats 8000000 in
theorem l_tk0 {γ : GT} {d : Nat} {B : Nat → Int} {n s e : Nat} {t : Tk} {h : Nat → Nat → Int} {τ : List AC} {Post : Option AV → List AC → Prop} (hd : 3 ≤ d) (hm : n ≤ 96) (hBr : ∀ k, 0 ≤ B k ∧ B k ≤ 255) (hC : CNE h) (rt : RTk B n h t) (hk1 : t.1 = 1) (hs : t.2.1 = s) (he : t.2.2 = e) (kS : ∀ K : Nat, 0 ≤ K → K < 3 → wdS B s e K → (∀ j, 0 ≤ j → j < K → ¬ wdS B s e j) → ∀ h', Fr [123] h h' → (∀ k, (k < 18 ∨ 23 < k) → h' 123 k = h 123 k) → h' 123 23 = ((K : Nat) : Int) → RTk B n h' (nxt B n t) → Post (some (vI 1)) (mk h' τ)) (kN : (∀ j, 0 ≤ j → j < 3 → ¬ wdS B s e j) → Post (some (vI 0)) (mk h τ)) : Aj γ mX9_takesKey d 0 0 Post 12 [(1, vI 0), (0, vA 123)] [] (mk h τ) := by
  have hB := rt.2.1
  have hvl := rt.2.2.2.2.2.2.2.2.2.1
  have hvn := rt.2.2.2.2.2.2.2.2.2.2.1
  have h18 : h 123 18 = ((e : Nat) : Int) := by rw [← he]; exact rt.2.2.1
  have h19 : h 123 19 = ((s : Nat) : Int) := by rw [← hs]; exact rt.2.2.2.1
  refine a_iload_n (j := 0) dX9_takesKey_12 rfl rfl ?_
  refine a_iconst dX9_takesKey_13 ⟨by decide, by decide⟩ ?_
  refine a_icmp_ge (tgt := 127) dX9_takesKey_14 (by decide) (fun c => absurd c (by decide)) (fun _ => ?_)
  refine a_aload_n (j := 1) dX9_takesKey_17 rfl rfl (Nat.le_of_ble_eq_true rfl) ?_
  refine b_getp (a := 123) (p := 139) dX9_takesKey_18 fwX9_57 (by decide) rfl (by decide) rfl rfl ?_
  refine a_iload_n (j := 0) dX9_takesKey_21 rfl rfl ?_
  refine a_iconst dX9_takesKey_22 ⟨by decide, by decide⟩ ?_
  refine a_iadd (z := 1) dX9_takesKey_23 (w_ok (by omega) (by omega)) ?_
  refine b_iaload (a := 139) (z := 5) 1 dX9_takesKey_24 (by decide) rfl rfl (by decide) rfl (hC.2 1 (by decide)) (fun r24_1 => ?_)
  refine a_aload_n (j := 1) dX9_takesKey_25 rfl rfl (Nat.le_of_ble_eq_true rfl) ?_
  refine b_getp (a := 123) (p := 139) dX9_takesKey_26 fwX9_57 (by decide) rfl (by decide) rfl rfl ?_
  refine a_iload_n (j := 0) dX9_takesKey_29 rfl rfl ?_
  refine b_iaload (a := 139) (z := 0) 0 dX9_takesKey_30 (by decide) rfl rfl (by decide) rfl (hC.2 0 (by decide)) (fun r30_2 => ?_)
  refine a_isub (z := 5) dX9_takesKey_31 (w_ok (by omega) (by omega)) ?_
  refine a_istore_n (lv' := [(2, vI 5), (1, vI 0), (0, vA 123)]) dX9_takesKey_32 rfl (by decide) rfl ?_
  refine a_iload_n (j := 0) dX9_takesKey_33 rfl rfl ?_
  refine a_aload_n (j := 2) dX9_takesKey_34 rfl rfl (Nat.le_of_ble_eq_true rfl) ?_
  refine b_get (a := 123) (z := ((e : Nat) : Int)) (t := 0) dX9_takesKey_35 fwX9_232 (by decide) rfl (by decide) rfl rfl h18 ?_
  refine a_aload_n (j := 2) dX9_takesKey_38 rfl rfl (Nat.le_of_ble_eq_true rfl) ?_
  refine b_get (a := 123) (z := ((s : Nat) : Int)) (t := 0) dX9_takesKey_39 fwX9_235 (by decide) rfl (by decide) rfl rfl h19 ?_
  refine a_isub (z := (((e : Nat) : Int) - ((s : Nat) : Int))) dX9_takesKey_42 (w_ok (by omega) (by omega)) ?_
  refine a_icmp_ne (tgt := 50) dX9_takesKey_43 (by decide) (fun c43_3 => ?_) (fun c43_3 => ?_)
  · refine a_iconst dX9_takesKey_50 ⟨by decide, by decide⟩ ?_
    refine a_istore_n (lv' := [(3, vI 0), (2, vI 5), (1, vI 0), (0, vA 123)]) dX9_takesKey_51 rfl (by decide) rfl ?_
    refine a_iconst dX9_takesKey_52 ⟨by decide, by decide⟩ ?_
    refine a_istore (lv' := [(4, vI 0), (3, vI 0), (2, vI 5), (1, vI 0), (0, vA 123)]) dX9_takesKey_53 (by decide) rfl ?_
    refine a_iload (j := 0) dX9_takesKey_55 rfl ?_
    refine a_iload_n (j := 2) dX9_takesKey_57 rfl rfl ?_
    refine a_icmp_ge (tgt := 106) dX9_takesKey_58 (by decide) (fun c => absurd c (by decide)) (fun _ => ?_)
    refine a_iload_n (j := 1) dX9_takesKey_61 rfl rfl ?_
    refine a_if_eq (tgt := 106) dX9_takesKey_62 (by decide) (fun _ => ?_) (fun c => absurd c (by decide))
    refine a_iload_n (j := 1) dX9_takesKey_106 rfl rfl ?_
    refine a_if_eq (tgt := 121) dX9_takesKey_107 (by decide) (fun _ => ?_) (fun c => absurd c (by decide))
    refine a_iinc (j := 3) (z' := 1) (lv' := [(1, vI 1), (4, vI 0), (3, vI 0), (2, vI 5), (0, vA 123)]) dX9_takesKey_121 rfl (w_ok (by omega) (by omega)) (by decide) rfl ?_
    refine a_goto (tgt := 12) dX9_takesKey_124 (by decide) ?_
    have hno : ¬ wdS B s e 0 := fun q => by have q := wd_0.mp q; omega
    refine a_lv (lv' := [(1, vI 1), (0, vA 123)]) (by intro q hq; simp only [List.mem_cons, List.not_mem_nil, or_false] at hq ⊢; rcases hq with rfl | rfl <;> simp) (l_tk1 hd hm hBr hC rt hk1 hs he (fun K h1 h2 h3 h4 => kS K (by omega) h2 h3 (fun j h5 h6 => by
        by_cases c : j = 0
        · subst c; exact hno
        · exact h4 j (by omega) h6)) (fun q => kN (fun j h5 h6 => by
        by_cases c : j = 0
        · subst c; exact hno
        · exact q j (by omega) h6)))
  · refine a_iconst dX9_takesKey_46 ⟨by decide, by decide⟩ ?_
    refine a_goto (tgt := 51) dX9_takesKey_47 (by decide) ?_
    refine a_istore_n (lv' := [(3, vI 1), (2, vI 5), (1, vI 0), (0, vA 123)]) dX9_takesKey_51 rfl (by decide) rfl ?_
    refine a_iconst dX9_takesKey_52 ⟨by decide, by decide⟩ ?_
    refine a_istore (lv' := [(4, vI 0), (3, vI 1), (2, vI 5), (1, vI 0), (0, vA 123)]) dX9_takesKey_53 (by decide) rfl ?_
    refine a_iload (j := 0) dX9_takesKey_55 rfl ?_
    refine a_iload_n (j := 2) dX9_takesKey_57 rfl rfl ?_
    refine a_icmp_ge (tgt := 106) dX9_takesKey_58 (by decide) (fun c => absurd c (by decide)) (fun _ => ?_)
    refine a_iload_n (j := 1) dX9_takesKey_61 rfl rfl ?_
    refine a_if_eq (tgt := 106) dX9_takesKey_62 (by decide) (fun c => absurd c (by decide)) (fun _ => ?_)
    refine a_aload_n (j := 4) dX9_takesKey_65 rfl rfl (Nat.le_of_ble_eq_true rfl) ?_
    refine b_getp (a := 123) (p := 137) dX9_takesKey_66 fwX9_50 (by decide) rfl (by decide) rfl rfl ?_
    refine a_aload_n (j := 4) dX9_takesKey_69 rfl rfl (Nat.le_of_ble_eq_true rfl) ?_
    refine b_get (a := 123) (z := ((s : Nat) : Int)) (t := 0) dX9_takesKey_70 fwX9_235 (by decide) rfl (by decide) rfl rfl h19 ?_
    refine a_iload (j := 0) dX9_takesKey_73 rfl ?_
    refine a_iadd (z := ((s : Nat) : Int) + 0) dX9_takesKey_75 (w_ok (by omega) (by omega)) ?_
    refine b_iaload (a := 137) (z := (B s)) s dX9_takesKey_76 (by decide) rfl (by omega) (by omega) (sp_nil rfl _) (hB s (by omega)) (fun r76_4 => ?_)
    refine a_aload_n (j := 4) dX9_takesKey_77 rfl rfl (Nat.le_of_ble_eq_true rfl) ?_
    refine b_getp (a := 123) (p := 138) dX9_takesKey_78 fwX9_53 (by decide) rfl (by decide) rfl rfl ?_
    refine a_aload_n (j := 4) dX9_takesKey_81 rfl rfl (Nat.le_of_ble_eq_true rfl) ?_
    refine b_getp (a := 123) (p := 139) dX9_takesKey_82 fwX9_57 (by decide) rfl (by decide) rfl rfl ?_
    refine a_iload_n (j := 3) dX9_takesKey_85 rfl rfl ?_
    refine b_iaload (a := 139) (z := 0) 0 dX9_takesKey_86 (by decide) rfl rfl (by decide) rfl (hC.2 0 (by decide)) (fun r86_5 => ?_)
    refine a_iload (j := 0) dX9_takesKey_87 rfl ?_
    refine a_iadd (z := 0) dX9_takesKey_89 (w_ok (by omega) (by omega)) ?_
    refine b_caload (a := 138) (z := 119) 0 dX9_takesKey_90 (by decide) rfl rfl (by decide) rfl (hC.1 0 (by decide)) (fun r90_6 => ?_)
    refine a_icmp_ne (tgt := 98) dX9_takesKey_91 (by decide) (fun c91_7 => ?_) (fun c91_7 => ?_)
    · refine a_iconst dX9_takesKey_98 ⟨by decide, by decide⟩ ?_
      refine a_istore_n (lv' := [(3, vI 0), (4, vI 0), (2, vI 5), (1, vI 0), (0, vA 123)]) dX9_takesKey_99 rfl (by decide) rfl ?_
      refine a_iinc (j := 1) (z' := 1) (lv' := [(4, vI 1), (3, vI 0), (2, vI 5), (1, vI 0), (0, vA 123)]) dX9_takesKey_100 rfl (w_ok (by omega) (by omega)) (by decide) rfl ?_
      refine a_goto (tgt := 55) dX9_takesKey_103 (by decide) ?_
      refine a_iload (j := 0) dX9_takesKey_55 rfl ?_
      refine a_iload_n (j := 2) dX9_takesKey_57 rfl rfl ?_
      refine a_icmp_ge (tgt := 106) dX9_takesKey_58 (by decide) (fun c => absurd c (by decide)) (fun _ => ?_)
      refine a_iload_n (j := 1) dX9_takesKey_61 rfl rfl ?_
      refine a_if_eq (tgt := 106) dX9_takesKey_62 (by decide) (fun _ => ?_) (fun c => absurd c (by decide))
      refine a_iload_n (j := 1) dX9_takesKey_106 rfl rfl ?_
      refine a_if_eq (tgt := 121) dX9_takesKey_107 (by decide) (fun _ => ?_) (fun c => absurd c (by decide))
      refine a_iinc (j := 3) (z' := 1) (lv' := [(1, vI 1), (4, vI 1), (3, vI 0), (2, vI 5), (0, vA 123)]) dX9_takesKey_121 rfl (w_ok (by omega) (by omega)) (by decide) rfl ?_
      refine a_goto (tgt := 12) dX9_takesKey_124 (by decide) ?_
      have hno : ¬ wdS B s e 0 := fun q => by have q := wd_0.mp q; omega
      refine a_lv (lv' := [(1, vI 1), (0, vA 123)]) (by intro q hq; simp only [List.mem_cons, List.not_mem_nil, or_false] at hq ⊢; rcases hq with rfl | rfl <;> simp) (l_tk1 hd hm hBr hC rt hk1 hs he (fun K h1 h2 h3 h4 => kS K (by omega) h2 h3 (fun j h5 h6 => by
        by_cases c : j = 0
        · subst c; exact hno
        · exact h4 j (by omega) h6)) (fun q => kN (fun j h5 h6 => by
        by_cases c : j = 0
        · subst c; exact hno
        · exact q j (by omega) h6)))
    · refine a_iconst dX9_takesKey_94 ⟨by decide, by decide⟩ ?_
      refine a_goto (tgt := 99) dX9_takesKey_95 (by decide) ?_
      refine a_istore_n (lv' := [(3, vI 1), (4, vI 0), (2, vI 5), (1, vI 0), (0, vA 123)]) dX9_takesKey_99 rfl (by decide) rfl ?_
      refine a_iinc (j := 1) (z' := 1) (lv' := [(4, vI 1), (3, vI 1), (2, vI 5), (1, vI 0), (0, vA 123)]) dX9_takesKey_100 rfl (w_ok (by omega) (by omega)) (by decide) rfl ?_
      refine a_goto (tgt := 55) dX9_takesKey_103 (by decide) ?_
      refine a_iload (j := 0) dX9_takesKey_55 rfl ?_
      refine a_iload_n (j := 2) dX9_takesKey_57 rfl rfl ?_
      refine a_icmp_ge (tgt := 106) dX9_takesKey_58 (by decide) (fun c => absurd c (by decide)) (fun _ => ?_)
      refine a_iload_n (j := 1) dX9_takesKey_61 rfl rfl ?_
      refine a_if_eq (tgt := 106) dX9_takesKey_62 (by decide) (fun c => absurd c (by decide)) (fun _ => ?_)
      refine a_aload_n (j := 4) dX9_takesKey_65 rfl rfl (Nat.le_of_ble_eq_true rfl) ?_
      refine b_getp (a := 123) (p := 137) dX9_takesKey_66 fwX9_50 (by decide) rfl (by decide) rfl rfl ?_
      refine a_aload_n (j := 4) dX9_takesKey_69 rfl rfl (Nat.le_of_ble_eq_true rfl) ?_
      refine b_get (a := 123) (z := ((s : Nat) : Int)) (t := 0) dX9_takesKey_70 fwX9_235 (by decide) rfl (by decide) rfl rfl h19 ?_
      refine a_iload (j := 0) dX9_takesKey_73 rfl ?_
      refine a_iadd (z := (((s : Nat) : Int) + 1)) dX9_takesKey_75 (w_ok (by omega) (by omega)) ?_
      refine b_iaload (a := 137) (z := (B (1 + s))) (1 + s) dX9_takesKey_76 (by decide) rfl (by omega) (by omega) (sp_nil rfl _) (hB (1 + s) (by omega)) (fun r76_8 => ?_)
      refine a_aload_n (j := 4) dX9_takesKey_77 rfl rfl (Nat.le_of_ble_eq_true rfl) ?_
      refine b_getp (a := 123) (p := 138) dX9_takesKey_78 fwX9_53 (by decide) rfl (by decide) rfl rfl ?_
      refine a_aload_n (j := 4) dX9_takesKey_81 rfl rfl (Nat.le_of_ble_eq_true rfl) ?_
      refine b_getp (a := 123) (p := 139) dX9_takesKey_82 fwX9_57 (by decide) rfl (by decide) rfl rfl ?_
      refine a_iload_n (j := 3) dX9_takesKey_85 rfl rfl ?_
      refine b_iaload (a := 139) (z := 0) 0 dX9_takesKey_86 (by decide) rfl rfl (by decide) rfl (hC.2 0 (by decide)) (fun r86_9 => ?_)
      refine a_iload (j := 0) dX9_takesKey_87 rfl ?_
      refine a_iadd (z := 1) dX9_takesKey_89 (w_ok (by omega) (by omega)) ?_
      refine b_caload (a := 138) (z := 97) 1 dX9_takesKey_90 (by decide) rfl rfl (by decide) rfl (hC.1 1 (by decide)) (fun r90_10 => ?_)
      refine a_icmp_ne (tgt := 98) dX9_takesKey_91 (by decide) (fun c91_11 => ?_) (fun c91_11 => ?_)
      · refine a_iconst dX9_takesKey_98 ⟨by decide, by decide⟩ ?_
        refine a_istore_n (lv' := [(3, vI 0), (4, vI 1), (2, vI 5), (1, vI 0), (0, vA 123)]) dX9_takesKey_99 rfl (by decide) rfl ?_
        refine a_iinc (j := 1) (z' := 2) (lv' := [(4, vI 2), (3, vI 0), (2, vI 5), (1, vI 0), (0, vA 123)]) dX9_takesKey_100 rfl (w_ok (by omega) (by omega)) (by decide) rfl ?_
        refine a_goto (tgt := 55) dX9_takesKey_103 (by decide) ?_
        refine a_iload (j := 0) dX9_takesKey_55 rfl ?_
        refine a_iload_n (j := 2) dX9_takesKey_57 rfl rfl ?_
        refine a_icmp_ge (tgt := 106) dX9_takesKey_58 (by decide) (fun c => absurd c (by decide)) (fun _ => ?_)
        refine a_iload_n (j := 1) dX9_takesKey_61 rfl rfl ?_
        refine a_if_eq (tgt := 106) dX9_takesKey_62 (by decide) (fun _ => ?_) (fun c => absurd c (by decide))
        refine a_iload_n (j := 1) dX9_takesKey_106 rfl rfl ?_
        refine a_if_eq (tgt := 121) dX9_takesKey_107 (by decide) (fun _ => ?_) (fun c => absurd c (by decide))
        refine a_iinc (j := 3) (z' := 1) (lv' := [(1, vI 1), (4, vI 2), (3, vI 0), (2, vI 5), (0, vA 123)]) dX9_takesKey_121 rfl (w_ok (by omega) (by omega)) (by decide) rfl ?_
        refine a_goto (tgt := 12) dX9_takesKey_124 (by decide) ?_
        have hno : ¬ wdS B s e 0 := fun q => by have q := wd_0.mp q; omega
        refine a_lv (lv' := [(1, vI 1), (0, vA 123)]) (by intro q hq; simp only [List.mem_cons, List.not_mem_nil, or_false] at hq ⊢; rcases hq with rfl | rfl <;> simp) (l_tk1 hd hm hBr hC rt hk1 hs he (fun K h1 h2 h3 h4 => kS K (by omega) h2 h3 (fun j h5 h6 => by
        by_cases c : j = 0
        · subst c; exact hno
        · exact h4 j (by omega) h6)) (fun q => kN (fun j h5 h6 => by
        by_cases c : j = 0
        · subst c; exact hno
        · exact q j (by omega) h6)))
      · refine a_iconst dX9_takesKey_94 ⟨by decide, by decide⟩ ?_
        refine a_goto (tgt := 99) dX9_takesKey_95 (by decide) ?_
        refine a_istore_n (lv' := [(3, vI 1), (4, vI 1), (2, vI 5), (1, vI 0), (0, vA 123)]) dX9_takesKey_99 rfl (by decide) rfl ?_
        refine a_iinc (j := 1) (z' := 2) (lv' := [(4, vI 2), (3, vI 1), (2, vI 5), (1, vI 0), (0, vA 123)]) dX9_takesKey_100 rfl (w_ok (by omega) (by omega)) (by decide) rfl ?_
        refine a_goto (tgt := 55) dX9_takesKey_103 (by decide) ?_
        refine a_iload (j := 0) dX9_takesKey_55 rfl ?_
        refine a_iload_n (j := 2) dX9_takesKey_57 rfl rfl ?_
        refine a_icmp_ge (tgt := 106) dX9_takesKey_58 (by decide) (fun c => absurd c (by decide)) (fun _ => ?_)
        refine a_iload_n (j := 1) dX9_takesKey_61 rfl rfl ?_
        refine a_if_eq (tgt := 106) dX9_takesKey_62 (by decide) (fun c => absurd c (by decide)) (fun _ => ?_)
        refine a_aload_n (j := 4) dX9_takesKey_65 rfl rfl (Nat.le_of_ble_eq_true rfl) ?_
        refine b_getp (a := 123) (p := 137) dX9_takesKey_66 fwX9_50 (by decide) rfl (by decide) rfl rfl ?_
        refine a_aload_n (j := 4) dX9_takesKey_69 rfl rfl (Nat.le_of_ble_eq_true rfl) ?_
        refine b_get (a := 123) (z := ((s : Nat) : Int)) (t := 0) dX9_takesKey_70 fwX9_235 (by decide) rfl (by decide) rfl rfl h19 ?_
        refine a_iload (j := 0) dX9_takesKey_73 rfl ?_
        refine a_iadd (z := (((s : Nat) : Int) + 2)) dX9_takesKey_75 (w_ok (by omega) (by omega)) ?_
        refine b_iaload (a := 137) (z := (B (2 + s))) (2 + s) dX9_takesKey_76 (by decide) rfl (by omega) (by omega) (sp_nil rfl _) (hB (2 + s) (by omega)) (fun r76_12 => ?_)
        refine a_aload_n (j := 4) dX9_takesKey_77 rfl rfl (Nat.le_of_ble_eq_true rfl) ?_
        refine b_getp (a := 123) (p := 138) dX9_takesKey_78 fwX9_53 (by decide) rfl (by decide) rfl rfl ?_
        refine a_aload_n (j := 4) dX9_takesKey_81 rfl rfl (Nat.le_of_ble_eq_true rfl) ?_
        refine b_getp (a := 123) (p := 139) dX9_takesKey_82 fwX9_57 (by decide) rfl (by decide) rfl rfl ?_
        refine a_iload_n (j := 3) dX9_takesKey_85 rfl rfl ?_
        refine b_iaload (a := 139) (z := 0) 0 dX9_takesKey_86 (by decide) rfl rfl (by decide) rfl (hC.2 0 (by decide)) (fun r86_13 => ?_)
        refine a_iload (j := 0) dX9_takesKey_87 rfl ?_
        refine a_iadd (z := 2) dX9_takesKey_89 (w_ok (by omega) (by omega)) ?_
        refine b_caload (a := 138) (z := 105) 2 dX9_takesKey_90 (by decide) rfl rfl (by decide) rfl (hC.1 2 (by decide)) (fun r90_14 => ?_)
        refine a_icmp_ne (tgt := 98) dX9_takesKey_91 (by decide) (fun c91_15 => ?_) (fun c91_15 => ?_)
        · refine a_iconst dX9_takesKey_98 ⟨by decide, by decide⟩ ?_
          refine a_istore_n (lv' := [(3, vI 0), (4, vI 2), (2, vI 5), (1, vI 0), (0, vA 123)]) dX9_takesKey_99 rfl (by decide) rfl ?_
          refine a_iinc (j := 1) (z' := 3) (lv' := [(4, vI 3), (3, vI 0), (2, vI 5), (1, vI 0), (0, vA 123)]) dX9_takesKey_100 rfl (w_ok (by omega) (by omega)) (by decide) rfl ?_
          refine a_goto (tgt := 55) dX9_takesKey_103 (by decide) ?_
          refine a_iload (j := 0) dX9_takesKey_55 rfl ?_
          refine a_iload_n (j := 2) dX9_takesKey_57 rfl rfl ?_
          refine a_icmp_ge (tgt := 106) dX9_takesKey_58 (by decide) (fun c => absurd c (by decide)) (fun _ => ?_)
          refine a_iload_n (j := 1) dX9_takesKey_61 rfl rfl ?_
          refine a_if_eq (tgt := 106) dX9_takesKey_62 (by decide) (fun _ => ?_) (fun c => absurd c (by decide))
          refine a_iload_n (j := 1) dX9_takesKey_106 rfl rfl ?_
          refine a_if_eq (tgt := 121) dX9_takesKey_107 (by decide) (fun _ => ?_) (fun c => absurd c (by decide))
          refine a_iinc (j := 3) (z' := 1) (lv' := [(1, vI 1), (4, vI 3), (3, vI 0), (2, vI 5), (0, vA 123)]) dX9_takesKey_121 rfl (w_ok (by omega) (by omega)) (by decide) rfl ?_
          refine a_goto (tgt := 12) dX9_takesKey_124 (by decide) ?_
          have hno : ¬ wdS B s e 0 := fun q => by have q := wd_0.mp q; omega
          refine a_lv (lv' := [(1, vI 1), (0, vA 123)]) (by intro q hq; simp only [List.mem_cons, List.not_mem_nil, or_false] at hq ⊢; rcases hq with rfl | rfl <;> simp) (l_tk1 hd hm hBr hC rt hk1 hs he (fun K h1 h2 h3 h4 => kS K (by omega) h2 h3 (fun j h5 h6 => by
        by_cases c : j = 0
        · subst c; exact hno
        · exact h4 j (by omega) h6)) (fun q => kN (fun j h5 h6 => by
        by_cases c : j = 0
        · subst c; exact hno
        · exact q j (by omega) h6)))
        · refine a_iconst dX9_takesKey_94 ⟨by decide, by decide⟩ ?_
          refine a_goto (tgt := 99) dX9_takesKey_95 (by decide) ?_
          refine a_istore_n (lv' := [(3, vI 1), (4, vI 2), (2, vI 5), (1, vI 0), (0, vA 123)]) dX9_takesKey_99 rfl (by decide) rfl ?_
          refine a_iinc (j := 1) (z' := 3) (lv' := [(4, vI 3), (3, vI 1), (2, vI 5), (1, vI 0), (0, vA 123)]) dX9_takesKey_100 rfl (w_ok (by omega) (by omega)) (by decide) rfl ?_
          refine a_goto (tgt := 55) dX9_takesKey_103 (by decide) ?_
          refine a_iload (j := 0) dX9_takesKey_55 rfl ?_
          refine a_iload_n (j := 2) dX9_takesKey_57 rfl rfl ?_
          refine a_icmp_ge (tgt := 106) dX9_takesKey_58 (by decide) (fun c => absurd c (by decide)) (fun _ => ?_)
          refine a_iload_n (j := 1) dX9_takesKey_61 rfl rfl ?_
          refine a_if_eq (tgt := 106) dX9_takesKey_62 (by decide) (fun c => absurd c (by decide)) (fun _ => ?_)
          refine a_aload_n (j := 4) dX9_takesKey_65 rfl rfl (Nat.le_of_ble_eq_true rfl) ?_
          refine b_getp (a := 123) (p := 137) dX9_takesKey_66 fwX9_50 (by decide) rfl (by decide) rfl rfl ?_
          refine a_aload_n (j := 4) dX9_takesKey_69 rfl rfl (Nat.le_of_ble_eq_true rfl) ?_
          refine b_get (a := 123) (z := ((s : Nat) : Int)) (t := 0) dX9_takesKey_70 fwX9_235 (by decide) rfl (by decide) rfl rfl h19 ?_
          refine a_iload (j := 0) dX9_takesKey_73 rfl ?_
          refine a_iadd (z := (((s : Nat) : Int) + 3)) dX9_takesKey_75 (w_ok (by omega) (by omega)) ?_
          refine b_iaload (a := 137) (z := (B (3 + s))) (3 + s) dX9_takesKey_76 (by decide) rfl (by omega) (by omega) (sp_nil rfl _) (hB (3 + s) (by omega)) (fun r76_16 => ?_)
          refine a_aload_n (j := 4) dX9_takesKey_77 rfl rfl (Nat.le_of_ble_eq_true rfl) ?_
          refine b_getp (a := 123) (p := 138) dX9_takesKey_78 fwX9_53 (by decide) rfl (by decide) rfl rfl ?_
          refine a_aload_n (j := 4) dX9_takesKey_81 rfl rfl (Nat.le_of_ble_eq_true rfl) ?_
          refine b_getp (a := 123) (p := 139) dX9_takesKey_82 fwX9_57 (by decide) rfl (by decide) rfl rfl ?_
          refine a_iload_n (j := 3) dX9_takesKey_85 rfl rfl ?_
          refine b_iaload (a := 139) (z := 0) 0 dX9_takesKey_86 (by decide) rfl rfl (by decide) rfl (hC.2 0 (by decide)) (fun r86_17 => ?_)
          refine a_iload (j := 0) dX9_takesKey_87 rfl ?_
          refine a_iadd (z := 3) dX9_takesKey_89 (w_ok (by omega) (by omega)) ?_
          refine b_caload (a := 138) (z := 116) 3 dX9_takesKey_90 (by decide) rfl rfl (by decide) rfl (hC.1 3 (by decide)) (fun r90_18 => ?_)
          refine a_icmp_ne (tgt := 98) dX9_takesKey_91 (by decide) (fun c91_19 => ?_) (fun c91_19 => ?_)
          · refine a_iconst dX9_takesKey_98 ⟨by decide, by decide⟩ ?_
            refine a_istore_n (lv' := [(3, vI 0), (4, vI 3), (2, vI 5), (1, vI 0), (0, vA 123)]) dX9_takesKey_99 rfl (by decide) rfl ?_
            refine a_iinc (j := 1) (z' := 4) (lv' := [(4, vI 4), (3, vI 0), (2, vI 5), (1, vI 0), (0, vA 123)]) dX9_takesKey_100 rfl (w_ok (by omega) (by omega)) (by decide) rfl ?_
            refine a_goto (tgt := 55) dX9_takesKey_103 (by decide) ?_
            refine a_iload (j := 0) dX9_takesKey_55 rfl ?_
            refine a_iload_n (j := 2) dX9_takesKey_57 rfl rfl ?_
            refine a_icmp_ge (tgt := 106) dX9_takesKey_58 (by decide) (fun c => absurd c (by decide)) (fun _ => ?_)
            refine a_iload_n (j := 1) dX9_takesKey_61 rfl rfl ?_
            refine a_if_eq (tgt := 106) dX9_takesKey_62 (by decide) (fun _ => ?_) (fun c => absurd c (by decide))
            refine a_iload_n (j := 1) dX9_takesKey_106 rfl rfl ?_
            refine a_if_eq (tgt := 121) dX9_takesKey_107 (by decide) (fun _ => ?_) (fun c => absurd c (by decide))
            refine a_iinc (j := 3) (z' := 1) (lv' := [(1, vI 1), (4, vI 4), (3, vI 0), (2, vI 5), (0, vA 123)]) dX9_takesKey_121 rfl (w_ok (by omega) (by omega)) (by decide) rfl ?_
            refine a_goto (tgt := 12) dX9_takesKey_124 (by decide) ?_
            have hno : ¬ wdS B s e 0 := fun q => by have q := wd_0.mp q; omega
            refine a_lv (lv' := [(1, vI 1), (0, vA 123)]) (by intro q hq; simp only [List.mem_cons, List.not_mem_nil, or_false] at hq ⊢; rcases hq with rfl | rfl <;> simp) (l_tk1 hd hm hBr hC rt hk1 hs he (fun K h1 h2 h3 h4 => kS K (by omega) h2 h3 (fun j h5 h6 => by
        by_cases c : j = 0
        · subst c; exact hno
        · exact h4 j (by omega) h6)) (fun q => kN (fun j h5 h6 => by
        by_cases c : j = 0
        · subst c; exact hno
        · exact q j (by omega) h6)))
          · refine a_iconst dX9_takesKey_94 ⟨by decide, by decide⟩ ?_
            refine a_goto (tgt := 99) dX9_takesKey_95 (by decide) ?_
            refine a_istore_n (lv' := [(3, vI 1), (4, vI 3), (2, vI 5), (1, vI 0), (0, vA 123)]) dX9_takesKey_99 rfl (by decide) rfl ?_
            refine a_iinc (j := 1) (z' := 4) (lv' := [(4, vI 4), (3, vI 1), (2, vI 5), (1, vI 0), (0, vA 123)]) dX9_takesKey_100 rfl (w_ok (by omega) (by omega)) (by decide) rfl ?_
            refine a_goto (tgt := 55) dX9_takesKey_103 (by decide) ?_
            refine a_iload (j := 0) dX9_takesKey_55 rfl ?_
            refine a_iload_n (j := 2) dX9_takesKey_57 rfl rfl ?_
            refine a_icmp_ge (tgt := 106) dX9_takesKey_58 (by decide) (fun c => absurd c (by decide)) (fun _ => ?_)
            refine a_iload_n (j := 1) dX9_takesKey_61 rfl rfl ?_
            refine a_if_eq (tgt := 106) dX9_takesKey_62 (by decide) (fun c => absurd c (by decide)) (fun _ => ?_)
            refine a_aload_n (j := 4) dX9_takesKey_65 rfl rfl (Nat.le_of_ble_eq_true rfl) ?_
            refine b_getp (a := 123) (p := 137) dX9_takesKey_66 fwX9_50 (by decide) rfl (by decide) rfl rfl ?_
            refine a_aload_n (j := 4) dX9_takesKey_69 rfl rfl (Nat.le_of_ble_eq_true rfl) ?_
            refine b_get (a := 123) (z := ((s : Nat) : Int)) (t := 0) dX9_takesKey_70 fwX9_235 (by decide) rfl (by decide) rfl rfl h19 ?_
            refine a_iload (j := 0) dX9_takesKey_73 rfl ?_
            refine a_iadd (z := (((s : Nat) : Int) + 4)) dX9_takesKey_75 (w_ok (by omega) (by omega)) ?_
            refine b_iaload (a := 137) (z := (B (4 + s))) (4 + s) dX9_takesKey_76 (by decide) rfl (by omega) (by omega) (sp_nil rfl _) (hB (4 + s) (by omega)) (fun r76_20 => ?_)
            refine a_aload_n (j := 4) dX9_takesKey_77 rfl rfl (Nat.le_of_ble_eq_true rfl) ?_
            refine b_getp (a := 123) (p := 138) dX9_takesKey_78 fwX9_53 (by decide) rfl (by decide) rfl rfl ?_
            refine a_aload_n (j := 4) dX9_takesKey_81 rfl rfl (Nat.le_of_ble_eq_true rfl) ?_
            refine b_getp (a := 123) (p := 139) dX9_takesKey_82 fwX9_57 (by decide) rfl (by decide) rfl rfl ?_
            refine a_iload_n (j := 3) dX9_takesKey_85 rfl rfl ?_
            refine b_iaload (a := 139) (z := 0) 0 dX9_takesKey_86 (by decide) rfl rfl (by decide) rfl (hC.2 0 (by decide)) (fun r86_21 => ?_)
            refine a_iload (j := 0) dX9_takesKey_87 rfl ?_
            refine a_iadd (z := 4) dX9_takesKey_89 (w_ok (by omega) (by omega)) ?_
            refine b_caload (a := 138) (z := 115) 4 dX9_takesKey_90 (by decide) rfl rfl (by decide) rfl (hC.1 4 (by decide)) (fun r90_22 => ?_)
            refine a_icmp_ne (tgt := 98) dX9_takesKey_91 (by decide) (fun c91_23 => ?_) (fun c91_23 => ?_)
            · refine a_iconst dX9_takesKey_98 ⟨by decide, by decide⟩ ?_
              refine a_istore_n (lv' := [(3, vI 0), (4, vI 4), (2, vI 5), (1, vI 0), (0, vA 123)]) dX9_takesKey_99 rfl (by decide) rfl ?_
              refine a_iinc (j := 1) (z' := 5) (lv' := [(4, vI 5), (3, vI 0), (2, vI 5), (1, vI 0), (0, vA 123)]) dX9_takesKey_100 rfl (w_ok (by omega) (by omega)) (by decide) rfl ?_
              refine a_goto (tgt := 55) dX9_takesKey_103 (by decide) ?_
              refine a_iload (j := 0) dX9_takesKey_55 rfl ?_
              refine a_iload_n (j := 2) dX9_takesKey_57 rfl rfl ?_
              refine a_icmp_ge (tgt := 106) dX9_takesKey_58 (by decide) (fun _ => ?_) (fun c => absurd c (by decide))
              refine a_iload_n (j := 1) dX9_takesKey_106 rfl rfl ?_
              refine a_if_eq (tgt := 121) dX9_takesKey_107 (by decide) (fun _ => ?_) (fun c => absurd c (by decide))
              refine a_iinc (j := 3) (z' := 1) (lv' := [(1, vI 1), (4, vI 5), (3, vI 0), (2, vI 5), (0, vA 123)]) dX9_takesKey_121 rfl (w_ok (by omega) (by omega)) (by decide) rfl ?_
              refine a_goto (tgt := 12) dX9_takesKey_124 (by decide) ?_
              have hno : ¬ wdS B s e 0 := fun q => by have q := wd_0.mp q; omega
              refine a_lv (lv' := [(1, vI 1), (0, vA 123)]) (by intro q hq; simp only [List.mem_cons, List.not_mem_nil, or_false] at hq ⊢; rcases hq with rfl | rfl <;> simp) (l_tk1 hd hm hBr hC rt hk1 hs he (fun K h1 h2 h3 h4 => kS K (by omega) h2 h3 (fun j h5 h6 => by
        by_cases c : j = 0
        · subst c; exact hno
        · exact h4 j (by omega) h6)) (fun q => kN (fun j h5 h6 => by
        by_cases c : j = 0
        · subst c; exact hno
        · exact q j (by omega) h6)))
            · refine a_iconst dX9_takesKey_94 ⟨by decide, by decide⟩ ?_
              refine a_goto (tgt := 99) dX9_takesKey_95 (by decide) ?_
              refine a_istore_n (lv' := [(3, vI 1), (4, vI 4), (2, vI 5), (1, vI 0), (0, vA 123)]) dX9_takesKey_99 rfl (by decide) rfl ?_
              refine a_iinc (j := 1) (z' := 5) (lv' := [(4, vI 5), (3, vI 1), (2, vI 5), (1, vI 0), (0, vA 123)]) dX9_takesKey_100 rfl (w_ok (by omega) (by omega)) (by decide) rfl ?_
              refine a_goto (tgt := 55) dX9_takesKey_103 (by decide) ?_
              refine a_iload (j := 0) dX9_takesKey_55 rfl ?_
              refine a_iload_n (j := 2) dX9_takesKey_57 rfl rfl ?_
              refine a_icmp_ge (tgt := 106) dX9_takesKey_58 (by decide) (fun _ => ?_) (fun c => absurd c (by decide))
              refine a_iload_n (j := 1) dX9_takesKey_106 rfl rfl ?_
              refine a_if_eq (tgt := 121) dX9_takesKey_107 (by decide) (fun c => absurd c (by decide)) (fun _ => ?_)
              refine a_aload_n (j := 4) dX9_takesKey_110 rfl rfl (Nat.le_of_ble_eq_true rfl) ?_
              refine a_iload_n (j := 3) dX9_takesKey_111 rfl rfl ?_
              refine b_put (a := 123) (v := vI 0) dX9_takesKey_112 pwX9_253 (fun h => nomatch h) (by decide) rfl (by decide) rfl rfl (fit_int _) ?_
              show Aj γ mX9_takesKey d 0 0 Post 115 [(4, vI 5), (3, vI 1), (2, vI 5), (1, vI 0), (0, vA 123)] [] (mk (up2 h 123 23 0) τ)
              refine a_aload_n (j := 4) dX9_takesKey_115 rfl rfl (Nat.le_of_ble_eq_true rfl) ?_
              refine b_callV (d' := d - 1) (mc' := 0) (ms' := 0) (mc1 := 0) (ms1 := 0) (st := []) (b := 123) [] dX9_takesKey_116 mwX9_go lkX9_256 (by decide) rfl rc_X9 rfl (Nat.le_of_ble_eq_true rfl) (by omega) rfl rfl (c_X9_go (B := B) (t := t) (by omega) ((up2_ne (by omega)).trans rt.1) hm (by rw [up2_row (by decide)]; exact rt.2.1) hBr ((up2_ne (by omega)).trans rt.2.2.1) (fun _ => (up2_ne (by omega)).trans (rt.2.2.2.2.2.2.2.1 (Or.inl hk1))) (fun q => absurd (Or.inl hk1) q) rt.2.2.2.2.2.2.2.2.2.2.1 (fun h2 f2 k2 r2 => ?_))
              show Aj γ mX9_takesKey d 0 0 Post 119 [(4, vI 5), (3, vI 1), (2, vI 5), (1, vI 0), (0, vA 123)] [] (mk h2 τ)
              refine a_iconst dX9_takesKey_119 ⟨by decide, by decide⟩ ?_
              exact a_zret dX9_takesKey_120 rfl (by first | exact Or.inl rfl | exact Or.inr rfl | omega) (kS 0 (Nat.le_refl _) (by decide) (wd_0.mpr (by omega)) (fun j h1 h2 => by omega) h2 (Fr_t (Fr_u (by decide) Fr_r) f2) (fun k hk => (k2 k (by omega)).trans (up2_ne (by omega))) ((k2 23 (by decide)).trans up2_at) r2)
theorem c_takesKey {γ : GT} {d : Nat} {B : Nat → Int} {n : Nat} {t : Tk} {h : Nat → Nat → Int} {τ : List AC} {Post : Option AV → List AC → Prop} (hd : 3 ≤ d) (hm : n ≤ 96) (hBr : ∀ k, 0 ≤ B k ∧ B k ≤ 255) (hC : CNE h) (rt : RTk B n h t) (kS : ∀ K : Nat, K < 3 → t.1 = 1 → wdS B t.2.1 t.2.2 K → (∀ j, j < K → ¬ wdS B t.2.1 t.2.2 j) → ∀ h', Fr [123] h h' → (∀ k, (k < 18 ∨ 23 < k) → h' 123 k = h 123 k) → h' 123 23 = ((K : Nat) : Int) → RTk B n h' (nxt B n t) → Post (some (vI 1)) (mk h' τ)) (kN : (∀ j, j < 3 → ¬ (t.1 = 1 ∧ wdS B t.2.1 t.2.2 j)) → Post (some (vI 0)) (mk h τ)) : Cj γ mX9_takesKey d 0 0 [vA 123] (mk h τ) Post := by
  refine c_of (by decide) (Nat.le_of_ble_eq_true rfl) ?_
  show Aj γ mX9_takesKey d 0 0 Post 0 [(0, vA 123)] [] (mk h τ)
  refine a_aload_n (j := 0) dX9_takesKey_0 rfl rfl (Nat.le_of_ble_eq_true rfl) ?_
  refine b_get (a := 123) (z := (rtk t)) (t := 0) dX9_takesKey_1 fwX9_241 (by decide) rfl (by decide) rfl rfl rt.2.2.2.2.1 ?_
  refine a_iconst dX9_takesKey_4 ⟨by decide, by decide⟩ ?_
  refine a_icmp_eq (tgt := 10) dX9_takesKey_5 (by decide) (fun c5_1 => ?_) (fun c5_1 => ?_)
  · refine a_iconst dX9_takesKey_10 ⟨by decide, by decide⟩ ?_
    refine a_istore_n (lv' := [(1, vI 0), (0, vA 123)]) dX9_takesKey_11 rfl (by decide) rfl ?_
    refine a_lv (lv' := [(1, vI 0), (0, vA 123)]) (by intro q hq; simp only [List.mem_cons, List.not_mem_nil, or_false] at hq ⊢; rcases hq with rfl | rfl <;> simp) (l_tk0 hd hm hBr hC rt ((rtk_1 t).mp (by omega)) rfl rfl (fun K _ h2 h3 h4 => kS K h2 ((rtk_1 t).mp (by omega)) h3 (fun j hj => h4 j (Nat.zero_le _) hj)) (fun q => kN (fun j hj w => q j (Nat.zero_le _) hj w.2)))
  · refine a_iconst dX9_takesKey_8 ⟨by decide, by decide⟩ ?_
    exact a_zret dX9_takesKey_9 rfl (by first | exact Or.inl rfl | exact Or.inr rfl | omega) (kN (fun j hj w => by have := (rtk_1 t).mpr w.1; omega))
