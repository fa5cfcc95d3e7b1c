theorem app_get {τ l : List AC} {q : Nat} {c : AC} (h : τ[q]? = some c) : (τ ++ l)[q]? = some c := by
  rw [List.getElem?_append_left (List.getElem?_eq_some_iff.mp h).1]; exact h
theorem TX_app {τ l : List AC} {N : Nat → Int} {t q : Nat} (h : TX τ N t q) : TX (τ ++ l) N t q := by
  obtain ⟨ft, a, b, c, q2, cx, e, f, g⟩ := h
  exact ⟨ft, app_get a, b, c, q2, cx, e, app_get f, g⟩
theorem txR_app {h : Nat → Nat → Int} {τ l : List AC} {c : Nat} {N : Nat → Int} (q : txR h τ c N) : txR h (τ ++ l) c N := by
  intro t ht
  obtain ⟨q, a, b⟩ := q t ht
  exact ⟨q, a, TX_app b⟩
theorem WR_app {h : Nat → Nat → Int} {τ l : List AC} {w : Nat} {N : Nat → Int} (q : WR h τ w N) : WR h (τ ++ l) w N := by
  obtain ⟨a, b, c, d, e, f⟩ := q
  exact ⟨a, b, c, txR_app d, e, f⟩
theorem IV_app {n : Nat} {h : Nat → Nat → Int} {τ l : List AC} {N J : Nat → Int} (q : IVp n h τ N J) : IVp n h (τ ++ l) N J := by
  obtain ⟨a, b, c, d, e, f, g, i, j, k⟩ := q
  exact ⟨a, b, c, WR_app d, e, fun q => ⟨(f q).1, WR_app (f q).2⟩, g, i, j, k⟩
theorem OT_tx {h h' : Nat → Nat → Int} (e : ∀ c, c ∈ RST → h' c = h c) (e84 : h' 84 1 = 0) (e12 : h' 0 12 = h 0 12) (e17 : h' 123 17 = 0) (e44 : h' 123 44 = h 123 44) (q : OT h) : OT h' := by
  obtain ⟨q1, q2, q3, q4, q5⟩ := q
  have r : ∀ c, ((89 ≤ c ∧ c < 123) ∨ c = 85 ∨ (137 ≤ c ∧ c ≤ 139) ∨ (145 ≤ c ∧ c ≤ 151) ∨ c = 153) → h' c = h c := fun c hc => e c (RST_in hc)
  refine ⟨⟨by rw [e84, e17], by rw [e17]; decide, fun k hk => ?_⟩, SHE_fr (fun c a b => r c (by omega)) (r 145 (by omega)) (r 146 (by omega)) (r 147 (by omega)) q2, SLE_fr (fun c a b => r c (by omega)) (r 148 (by omega)) (r 149 (by omega)) (r 150 (by omega)) (r 151 (by omega)) q3, WTE_fr e12 e44 (r 89 (by omega)) (r 153 (by omega)) q4, CNE_fr (r 138 (by omega)) (r 139 (by omega)) q5⟩
  rw [e17] at hk; omega
/-- a well formed list is a well formed row -/
theorem wf_of {cs : List Int} {cd : Nat → Int} (hcd : ∀ j, j < cs.length → cd j = cs.getD j 0) (h : wfl cs 0 = some 1) (hr : ∀ x : Int, x ∈ cs → -10 ≤ x ∧ x ≤ 10002) (hl : cs.length ≤ 92) : wfC cd cs.length := by
  have key : ∀ k, k ≤ cs.length → wfl (cs.drop k) (dpt cd k) = some 1 ∧ dpt cd k ≤ k ∧ ∀ j, j < k → -10 ≤ cd j ∧ cd j ≤ 10002 ∧ (cd j = -10 → 1 ≤ dpt cd j) ∧ (cd j < 0 → ¬ cd j = -10 → 2 ≤ dpt cd j) := by
    intro k
    induction k with
    | zero => exact fun _ => ⟨h, Nat.le_refl _, fun j hj => absurd hj (Nat.not_lt_zero _)⟩
    | succ k ih =>
      intro hk
      obtain ⟨i1, i2, i3⟩ := ih (by omega)
      have hk' : k < cs.length := by omega
      rw [List.drop_eq_getElem_cons hk'] at i1
      have ek : cd k = cs[k] := by rw [hcd k hk', List.getD_eq_getElem?_getD, List.getElem?_eq_getElem hk']; rfl
      have hx := hr cs[k] (List.getElem_mem hk')
      rw [← ek] at i1 hx
      generalize hz : cd k = z at i1 hx
      have i1' : (if 0 ≤ z then wfl (cs.drop (k + 1)) (dpt cd k + 1) else if z = -10 then (if 1 ≤ dpt cd k then wfl (cs.drop (k + 1)) (dpt cd k) else none) else (if 2 ≤ dpt cd k then wfl (cs.drop (k + 1)) (dpt cd k - 1) else none)) = some 1 := i1
      have ed : dpt cd (k + 1) = if 0 ≤ z then dpt cd k + 1 else if z = -10 then dpt cd k else dpt cd k - 1 := by rw [← hz]; rfl
      have fin : (wfl (cs.drop (k + 1)) (dpt cd (k + 1)) = some 1 ∧ dpt cd (k + 1) ≤ k + 1) ∧ (z = -10 → 1 ≤ dpt cd k) ∧ (z < 0 → ¬ z = -10 → 2 ≤ dpt cd k) := by
        rw [ed]
        by_cases c1 : 0 ≤ z
        · rw [if_pos c1] at i1' ⊢
          exact ⟨⟨i1', by omega⟩, fun q => by omega, fun q => by omega⟩
        · rw [if_neg c1] at i1' ⊢
          by_cases c2 : z = -10
          · rw [if_pos c2] at i1' ⊢
            by_cases c3 : 1 ≤ dpt cd k
            · rw [if_pos c3] at i1'
              exact ⟨⟨i1', by omega⟩, fun _ => c3, fun _ q => absurd c2 q⟩
            · rw [if_neg c3] at i1'; exact nomatch i1'
          · rw [if_neg c2] at i1' ⊢
            by_cases c3 : 2 ≤ dpt cd k
            · rw [if_pos c3] at i1'
              exact ⟨⟨i1', by omega⟩, fun q => absurd q c2, fun _ _ => c3⟩
            · rw [if_neg c3] at i1'; exact nomatch i1'
      refine ⟨fin.1.1, fin.1.2, fun j hj => ?_⟩
      by_cases c : j = k
      · subst c; rw [hz]; exact ⟨hx.1, hx.2, fin.2.1, fin.2.2⟩
      · exact i3 j (by omega)
  obtain ⟨k1, k2, k3⟩ := key cs.length (Nat.le_refl _)
  rw [List.drop_length] at k1
  refine ⟨Option.some.inj k1, fun k hk => ?_⟩
  have a := (key k (by omega)).2.1
  exact ⟨by omega, k3 k hk⟩
/-- one text more -/
theorem W_text {h h' : Nat → Nat → Int} {τ : List AC} {N : Nat → Int} {T K : Nat} {cs : List Int} {ft cx : Nat → Int} (hX : NX N) (hR : WR h τ 1 N) (h6 : N 6 = (T : Int)) (hT : T < 14) (hK : K < 3) (hcl : cs.length ≤ 92) (hw : wfl cs 0 = some 1) (hr : ∀ x : Int, x ∈ cs → -10 ≤ x ∧ x ≤ 10002 ∧ (((K : Nat) : Int) = 1 → x ≤ 10001)) (tx : TXc τ K cs ft cx) (a1 : ∀ k, k ≠ 0 → k ≠ 5 → h' 1 k = h 1 k) (a2 : h' 1 5 = (T : Int) + 1) (a3 : h' 4 T = ((154 + τ.length : Nat) : Int)) (a4 : ∀ k, k ≠ T → h' 4 k = h 4 k) (a5 : ∀ c, 2 ≤ c → c < 32 → c ≠ 4 → h' c = h c) (n1 : h' 124 6 = (T : Int) + 1) (n2 : h' 124 (173 + 2 * T) = 1000 * ((K : Nat) : Int) + ((cs.length : Nat) : Int)) (n4 : h' 124 (173 + 2 * T + 1) = ((lvs cs : Nat) : Int)) (n5 : ∀ j, j < cs.length → h' 124 (201 + 96 * T + j) = cs.getD j 0) (n3 : ∀ k, k ≠ 6 → k ≠ 173 + 2 * T → k ≠ 173 + 2 * T + 1 → (k < 201 + 96 * T ∨ 201 + 96 * T + cs.length ≤ k) → h' 124 k = N k) : NX (h' 124) ∧ WR h' (τ ++ [(4, 3, ft), (12, cs.length, cx)]) 1 (h' 124) := by
  obtain ⟨⟨⟨b1, b2, b3, b4, b5⟩, c, d, e⟩, f, g, i, j⟩ := hX
  obtain ⟨⟨r1, r2, r3, r4, r5, r6, r7, r8, r9⟩, st, tt', u, v, x⟩ := hR
  obtain ⟨e1, e2, e3⟩ := e
  have q0 : ∀ k, k < 173 → k ≠ 6 → h' 124 k = N k := fun k h1 h2 => n3 k h2 (by omega) (by omega) (by omega)
  have eA : ∀ t : Nat, t < 14 → t ≠ T → h' 124 (173 + 2 * t) = N (173 + 2 * t) := fun t h1 h2 => n3 _ (by omega) (by omega) (by omega) (by omega)
  have eB : ∀ t : Nat, t < 14 → t ≠ T → h' 124 (173 + 2 * t + 1) = N (173 + 2 * t + 1) := fun t h1 h2 => n3 _ (by omega) (by omega) (by omega) (by omega)
  have eC : ∀ t k : Nat, t < T → k < 96 → cdN (h' 124) t k = cdN N t k := fun t k h1 h2 => n3 _ (by omega) (by omega) (by omega) (by omega)
  have eL : ∀ t : Nat, t < T → lnN (h' 124) t = lnN N t := fun t h1 => by unfold lnN; rw [eA t (by omega) (by omega)]
  have lT : lnN (h' 124) T = cs.length := by unfold lnN; rw [n2]; omega
  have hl : ∀ t : Nat, t < T → lnN N t ≤ 96 := fun t h1 => by
    have q1 := (e3 t (by omega)).1
    have q2 := e2 t (by omega)
    unfold lnN; omega
  have mem : ∀ k, k < cs.length → cs.getD k 0 ∈ cs := fun k hk => by
    rw [List.getD_eq_getElem?_getD, List.getElem?_eq_getElem hk]; exact List.getElem_mem hk
  have eTX : txOK (h' 124) := by
    refine ⟨by rw [n1]; omega, fun t ht => ?_, fun t ht => ?_⟩
    · by_cases q : t = T
      · subst q; rw [n2]; omega
      · rw [eA t ht q]; exact e2 t ht
    · rw [n1] at ht
      by_cases q : t = T
      · subst q
        rw [lT, n2]
        refine ⟨by omega, wf_of n5 hw (fun x hx => ⟨(hr x hx).1, (hr x hx).2.1⟩) hcl, fun q k hk => ?_⟩
        show h' 124 (201 + 96 * t + k) ≤ 10001
        rw [n5 k hk]
        exact (hr _ (mem k hk)).2.2 (by omega)
      · have ht' : t < T := by omega
        obtain ⟨q1, q2, q3⟩ := e3 t (by omega)
        have hl' := hl t ht'
        rw [eA t (by omega) q, eL t ht']
        refine ⟨q1, wfC_cd (fun k hk => eC t k ht' (by omega)) q2, fun q k hk => ?_⟩
        rw [eC t k ht' (by omega)]
        exact q3 q k hk
  refine ⟨⟨⟨⟨by rw [q0 1 (by omega) (by omega)]; exact b1, by rw [q0 2 (by omega) (by omega)]; exact b2, by rw [q0 3 (by omega) (by omega)]; exact b3, by rw [q0 4 (by omega) (by omega)]; exact b4, by rw [q0 5 (by omega) (by omega)]; exact b5⟩, X_st (fun k h1 _ => q0 k (by omega) (by omega)) c, X_tr (q0 5 (by omega) (by omega)) (by omega) (by rw [q0 4 (by omega) (by omega)]; omega) (fun k h1 h2 => q0 k (by omega) (by omega)) d, eTX⟩, by rw [q0 7 (by omega) (by omega)]; exact f, X_pl (q0 7 (by omega) (by omega)) (by omega) (by rw [q0 5 (by omega) (by omega)]; omega) (fun k h1 h2 => q0 k (by omega) (by omega)) g, by rw [q0 8 (by omega) (by omega)]; exact i, X_gu (q0 8 (by omega) (by omega)) (by omega) (by rw [q0 4 (by omega) (by omega)]; omega) (fun k h1 h2 => q0 k (by omega) (by omega)) j⟩, ⟨?_, P_st (a5 2 (by omega) (by omega) (by omega)) (q0 4 (by omega) (by omega)) (by omega) (fun k h1 _ => q0 k (by omega) (by omega)) st, P_tr (fun k h1 h2 => a5 k (by omega) h2 (by omega)) (q0 5 (by omega) (by omega)) (by omega) (fun k h1 h2 => q0 k (by omega) (by omega)) tt', ?_, P_pl (a5 5 (by omega) (by omega) (by omega)) (q0 7 (by omega) (by omega)) (by omega) (fun k h1 h2 => q0 k (by omega) (by omega)) v, P_gu (a5 6 (by omega) (by omega) (by omega)) (a5 7 (by omega) (by omega) (by omega)) (q0 8 (by omega) (by omega)) (by omega) (fun k h1 h2 => q0 k (by omega) (by omega)) x⟩⟩
  · refine ⟨?_, ?_, by rw [a2, n1], ?_, ?_, ?_, ?_, ?_, ?_⟩
    · rw [a1 1 (by decide) (by decide), q0 4 (by omega) (by omega)]; exact r1
    · rw [a1 3 (by decide) (by decide), q0 5 (by omega) (by omega)]; exact r2
    · rw [a1 7 (by decide) (by decide), q0 7 (by omega) (by omega)]; exact r4
    · rw [a1 9 (by decide) (by decide), q0 2 (by omega) (by omega)]; exact r5
    · rw [a1 10 (by decide) (by decide), q0 3 (by omega) (by omega)]; exact r6
    · rw [a1 11 (by decide) (by decide), q0 1 (by omega) (by omega)]; exact r7
    · rw [a1 12 (by decide) (by decide), q0 8 (by omega) (by omega)]; exact r8
    · rw [a1 15 (by decide) (by decide), q0 0 (by omega) (by omega)]; exact r9
  · intro t ht
    rw [n1] at ht
    by_cases q : t = T
    · subst q
      obtain ⟨t1, t2, t3, t4⟩ := tx
      refine ⟨τ.length, a3, ft, tau_3, by rw [n2, t1]; omega, by rw [n4, t2], τ.length + 1, cx, t3, ?_, ?_⟩
      · rw [lT]; simp
      · rw [lT]
        intro k hk
        refine ⟨(t4 k hk).1, (t4 k hk).2.trans ?_⟩
        exact (n5 k hk).symm
    · have ht' : t < T := by omega
      obtain ⟨q, p1, ft', p2, p3, p4, q2, cx', p5, p6, p7⟩ := u t (by omega)
      have hl' := hl t ht'
      refine ⟨q, (a4 t (by omega)).trans p1, ft', app_get p2, by rw [eA t (by omega) (by omega)]; exact p3, by rw [eB t (by omega) (by omega)]; exact p4, q2, cx', p5, by rw [eL t ht']; exact app_get p6, ?_⟩
      rw [eL t ht']
      intro k hk
      rw [eC t k ht' (by omega)]
      exact p7 k hk
set_option maxHeartbeats 8000000 in
theorem s_text {γ : GT} {d mc ms n i : Nat} {N J : Nat → Int} {h : Nat → Nat → Int} {τ : List AC} {Post : Option AV → List AC → Prop} (hd : 100 ≤ d) (hn : n < 64) (hmc : 2 ≤ mc) (hms : 99 ≤ ms) (hI : IVp n h τ N J) (kE : ∀ h' τ' N' J', IVp (n + 1) h' τ' N' J' → Aj γ mL_law d (mc - 2) (ms - 99) Post 1668 [(0, vK 0), (1, vA 0), (2, vA 123), (3, vI ((i : Nat) : Int))] [] (mk h' τ')) : Aj γ mL_law d mc ms Post 1022 [(0, vK 0), (1, vA 0), (2, vA 123), (3, vI ((i : Nat) : Int))] [] (mk h τ) := by
  obtain ⟨hN, hJ, hX, hR, hk, hkK, hC, hRC, hst, hO⟩ := id hI
  have hTP := hO.1
  obtain ⟨T, h6⟩ : ∃ T : Nat, N 6 = (T : Int) := ⟨(N 6).toNat, by have := hX.1.2.2.2.1; omega⟩
  have hT : T ≤ 14 := by have := hX.1.2.2.2.1; omega
  obtain ⟨b, hb⟩ : ∃ b : Nat, h 123 17 = (b : Int) := ⟨(h 123 17).toNat, by have := hTP.2.1; omega⟩
  have hm : b ≤ 96 := by have := hTP.2.1; omega
  have hBr : ∀ k : Nat, 0 ≤ (fun k => and32 (h 85 k) 255) k ∧ (fun k => and32 (h 85 k) 255) k ≤ 255 := fun k => and_rng _
  have h84 : h 84 1 = ((b : Nat) : Int) := hTP.1.trans hb
  have e5 : h 1 5 = ((T : Nat) : Int) := hR.1.2.2.1.trans h6
  have hB : ∀ k, k < b → h 137 k = (fun k => and32 (h 85 k) 255) k := fun k hk => (hTP.2.2 k (by omega)).symm
  refine a_aload_n (j := 1) dL_law_1022 rfl rfl (Nat.le_of_ble_eq_true rfl) ?_
  refine b_callV (d' := d - 1) (mc' := 2) (ms' := 99) (mc1 := mc - 2) (ms1 := ms - 99) (st := []) (b := 0) [] dL_law_1023 mwX8_text lkL_119 (by decide) rfl rc_X8 rfl (Nat.le_of_ble_eq_true rfl) (by omega) (by omega) (by omega) (c_X8_text (B := fun k => and32 (h 85 k) 255) (n := b) (T := T) (v := h 0 3) (by omega) h84 hm (fun k _ => rfl) hBr e5 hT rfl (by omega) (fun h1 s f1 z1 q1 => ?_) (fun hU h1 K cs ft cx f1 z1 q1 q2 => ?_) (fun hU h1 K cs ft cx f1 q1 q2 => ?_))
  · show Aj γ mL_law d (mc - 2) (ms - 99) Post 1026 [(0, vK 0), (1, vA 0), (2, vA 123), (3, vI ((i : Nat) : Int))] [vI (-100 - ((s : Nat) : Int))] (mk h1 τ)
    refine a_aload_n (j := 2) dL_law_1026 rfl rfl (Nat.le_of_ble_eq_true rfl) ?_
    refine b_callV (d' := d - 1) (mc' := 0) (ms' := 0) (mc1 := mc - 2) (ms1 := ms - 99) (st := [vI (-100 - ((s : Nat) : Int))]) (b := 123) [] dL_law_1027 mwX9_text lkL_122 (by decide) rfl rc_X9 rfl (Nat.le_of_ble_eq_true rfl) (by omega) (by omega) (by omega) (c_textF (B := fun k => and32 (h 85 k) 255) (n := b) (by omega) ((Fr_v f1 (by decide)).trans hb) hm (by rw [f1 137 (by decide)]; exact hB) hBr (CNE_fr (f1 138 (by decide)) (f1 139 (by decide)) hO.2.2.2.2) q1 (fun h2 f2 z2 k2 => ?_))
    show Aj γ mL_law d (mc - 2) (ms - 99) Post 1030 [(0, vK 0), (1, vA 0), (2, vA 123), (3, vI ((i : Nat) : Int))] [vI (-100 - ((s : Nat) : Int)), vI (-100 - ((s : Nat) : Int))] (mk h2 τ)
    refine a_icmp_eq (tgt := 1668) dL_law_1030 (by decide) (fun _ => ?_) (fun c => absurd rfl c)
    have F : ∀ c, c ≠ 84 → c ≠ 86 → c ≠ 123 → c ≠ 140 → c ≠ 141 → c ≠ 142 → h2 c = h c := fun c c1 c2 c3 c4 c5 c6 => (f2 c (by simp only [List.mem_cons, List.not_mem_nil, or_false]; omega)).trans (f1 c (by simp only [List.mem_cons, List.not_mem_nil, or_false]; omega))
    refine kE h2 τ N J (IV_up (Nat.le_succ n) (IV_o hI (fun c hc => F c (by omega) (by omega) (by omega) (by omega) (by omega) (by omega)) (fun k _ => congrFun (F 0 (by decide) (by decide) (by decide) (by decide) (by decide) (by decide)) k) (fun k hk => (k2 k (by omega)).trans (Fr_v f1 (by decide))) (OT_tx (fun c hc => ?_) ((Fr_v f2 (by decide)).trans z1) (congrFun (F 0 (by decide) (by decide) (by decide) (by decide) (by decide) (by decide)) 12) z2 ((k2 44 (by decide)).trans (Fr_v f1 (by decide))) hO)))
    exact F c ((by decide : ∀ x, x ∈ RST → x ≠ 84) c hc) ((by decide : ∀ x, x ∈ RST → x ≠ 86) c hc) ((by decide : ∀ x, x ∈ RST → x ≠ 123) c hc) ((by decide : ∀ x, x ∈ RST → x ≠ 140) c hc) ((by decide : ∀ x, x ∈ RST → x ≠ 141) c hc) ((by decide : ∀ x, x ∈ RST → x ≠ 142) c hc)
  · show Aj γ mL_law d (mc - 2) (ms - 99) Post 1026 [(0, vK 0), (1, vA 0), (2, vA 123), (3, vI ((i : Nat) : Int))] [vI (-1000000003)] (mk h1 (τ ++ [(4, 3, ft), (12, cs.length, cx)]))
    refine a_aload_n (j := 2) dL_law_1026 rfl rfl (Nat.le_of_ble_eq_true rfl) ?_
    refine b_callV (d' := d - 1) (mc' := 0) (ms' := 0) (mc1 := mc - 2) (ms1 := ms - 99) (st := [vI (-1000000003)]) (b := 123) [] dL_law_1027 mwX9_text lkL_122 (by decide) rfl rc_X9 rfl (Nat.le_of_ble_eq_true rfl) (by omega) (by omega) (by omega) (c_textT (B := fun k => and32 (h 85 k) 255) (n := b) (T := T) (by omega) ((Fr_v f1 (by decide)).trans hb) hm (by rw [f1 137 (by decide)]; exact hB) hBr (CNE_fr (f1 138 (by decide)) (f1 139 (by decide)) hO.2.2.2.2) ((Fr_v f1 (by decide)).trans (by rw [hN]; exact h6)) hT q1 (fun _ h2 f2 z2 k2 => ?_) (fun c => absurd c (by omega)))
    show Aj γ mL_law d (mc - 2) (ms - 99) Post 1030 [(0, vK 0), (1, vA 0), (2, vA 123), (3, vI ((i : Nat) : Int))] [vI (-1000000003), vI (-1000000003)] (mk h2 (τ ++ [(4, 3, ft), (12, cs.length, cx)]))
    refine a_icmp_eq (tgt := 1668) dL_law_1030 (by decide) (fun _ => ?_) (fun c => absurd rfl c)
    have F : ∀ c, c ≠ 84 → c ≠ 86 → c ≠ 123 → c ≠ 140 → c ≠ 141 → c ≠ 142 → h2 c = h c := fun c c1 c2 c3 c4 c5 c6 => (f2 c (by simp only [List.mem_cons, List.not_mem_nil, or_false]; omega)).trans (f1 c (by simp only [List.mem_cons, List.not_mem_nil, or_false]; omega))
    refine kE h2 _ N J (IV_up (Nat.le_succ n) (IV_o (IV_app hI) (fun c hc => F c (by omega) (by omega) (by omega) (by omega) (by omega) (by omega)) (fun k _ => congrFun (F 0 (by decide) (by decide) (by decide) (by decide) (by decide) (by decide)) k) (fun k hk => (k2 k (by omega)).trans (Fr_v f1 (by decide))) (OT_tx (fun c hc => ?_) ((Fr_v f2 (by decide)).trans z1) (congrFun (F 0 (by decide) (by decide) (by decide) (by decide) (by decide) (by decide)) 12) z2 ((k2 44 (by decide)).trans (Fr_v f1 (by decide))) hO)))
    exact F c ((by decide : ∀ x, x ∈ RST → x ≠ 84) c hc) ((by decide : ∀ x, x ∈ RST → x ≠ 86) c hc) ((by decide : ∀ x, x ∈ RST → x ≠ 123) c hc) ((by decide : ∀ x, x ∈ RST → x ≠ 140) c hc) ((by decide : ∀ x, x ∈ RST → x ≠ 141) c hc) ((by decide : ∀ x, x ∈ RST → x ≠ 142) c hc)
  · generalize eH : up2 (up2 (up2 (up2 (up2 h1 84 1 0) 4 T ((154 + τ.length : Nat) : Int)) 1 5 (((T : Nat) : Int) + 1)) 0 3 (h 0 3 + 1)) 1 0 (h 0 3 + 1) = H1
    have g1 : ∀ c, c ≠ 0 → c ≠ 1 → c ≠ 4 → c ≠ 84 → H1 c = h1 c := fun c c1 c2 c3 c4 => by rw [← eH]; exact (up2_row (by omega)).trans ((up2_row (by omega)).trans ((up2_row (by omega)).trans ((up2_row (by omega)).trans (up2_row (by omega)))))
    have g0 : ∀ c, c ≠ 0 → c ≠ 1 → c ≠ 4 → c ≠ 84 → c ≠ 86 → H1 c = h c := fun c c1 c2 c3 c4 c5 => (g1 c c1 c2 c3 c4).trans (f1 c (by simp only [List.mem_cons, List.not_mem_nil, or_false]; omega))
    have m0 : ∀ k, k ≠ 3 → H1 0 k = h 0 k := fun k hk => by rw [← eH]; exact (up2_ne (by omega)).trans ((up2_ne (by omega)).trans ((up2_ne (by omega)).trans ((up2_ne (by omega)).trans ((up2_ne (by omega)).trans (Fr_v f1 (by decide))))))
    have m03 : H1 0 3 = h 0 3 + 1 := by rw [← eH]; exact (up2_ne (by omega)).trans up2_at
    have m1 : ∀ k, k ≠ 0 → k ≠ 5 → H1 1 k = h 1 k := fun k hk1 hk2 => by rw [← eH]; exact (up2_ne (by omega)).trans ((up2_ne (by omega)).trans ((up2_ne (by omega)).trans ((up2_ne (by omega)).trans ((up2_ne (by omega)).trans (Fr_v f1 (by decide))))))
    have m10 : H1 1 0 = h 0 3 + 1 := by rw [← eH]; exact up2_at
    have m15 : H1 1 5 = (T : Int) + 1 := by rw [← eH]; exact (up2_ne (by omega)).trans ((up2_ne (by omega)).trans up2_at)
    have m4T : H1 4 T = ((154 + τ.length : Nat) : Int) := by rw [← eH]; exact (up2_ne (by omega)).trans ((up2_ne (by omega)).trans ((up2_ne (by omega)).trans up2_at))
    have m4 : ∀ k, k ≠ T → H1 4 k = h 4 k := fun k hk => by rw [← eH]; exact (up2_ne (by omega)).trans ((up2_ne (by omega)).trans ((up2_ne (by omega)).trans ((up2_ne (by omega)).trans ((up2_ne (by omega)).trans (Fr_v f1 (by decide))))))
    have m84 : H1 84 1 = 0 := by rw [← eH]; exact (up2_ne (by omega)).trans ((up2_ne (by omega)).trans ((up2_ne (by omega)).trans ((up2_ne (by omega)).trans up2_at)))
    clear eH
    show Aj γ mL_law d (mc - 2) (ms - 99) Post 1026 [(0, vK 0), (1, vA 0), (2, vA 123), (3, vI ((i : Nat) : Int))] [vI ((T : Nat) : Int)] (mk H1 (τ ++ [(4, 3, ft), (12, cs.length, cx)]))
    have G : ∀ c, c ≠ 0 → c ≠ 1 → c ≠ 4 → c ≠ 84 → c ≠ 86 → H1 c = h c := g0
    refine a_aload_n (j := 2) dL_law_1026 rfl rfl (Nat.le_of_ble_eq_true rfl) ?_
    refine b_callV (d' := d - 1) (mc' := 0) (ms' := 0) (mc1 := mc - 2) (ms1 := ms - 99) (st := [vI ((T : Nat) : Int)]) (b := 123) [] dL_law_1027 mwX9_text lkL_122 (by decide) rfl rc_X9 rfl (Nat.le_of_ble_eq_true rfl) (by omega) (by omega) (by omega) (c_textT (B := fun k => and32 (h 85 k) 255) (n := b) (T := T) (by omega) ((congrFun (G 123 (by decide) (by decide) (by decide) (by decide) (by decide)) 17).trans hb) hm (by rw [G 137 (by decide) (by decide) (by decide) (by decide) (by decide)]; exact hB) hBr (CNE_fr (G 138 (by decide) (by decide) (by decide) (by decide) (by decide)) (G 139 (by decide) (by decide) (by decide) (by decide) (by decide)) hO.2.2.2.2) (by rw [G 124 (by decide) (by decide) (by decide) (by decide) (by decide), hN]; exact h6) hT q1 (fun c => absurd c (by omega)) (fun _ h2 f2 z2 z4 k2 w1 w2 w3 w4 w5 => ?_))
    show Aj γ mL_law d (mc - 2) (ms - 99) Post 1030 [(0, vK 0), (1, vA 0), (2, vA 123), (3, vI ((i : Nat) : Int))] [vI ((T : Nat) : Int), vI ((T : Nat) : Int)] (mk h2 (τ ++ [(4, 3, ft), (12, cs.length, cx)]))
    refine a_icmp_eq (tgt := 1668) dL_law_1030 (by decide) (fun _ => ?_) (fun c => absurd rfl c)
    have F2 : ∀ c, c ≠ 123 → c ≠ 124 → c ≠ 140 → c ≠ 141 → c ≠ 142 → h2 c = H1 c := fun c c1 c2 c3 c4 c5 => f2 c (by simp only [List.mem_cons, List.not_mem_nil, or_false]; omega)
    have F : ∀ c, c ≠ 0 → c ≠ 1 → c ≠ 4 → c ≠ 84 → c ≠ 86 → c ≠ 123 → c ≠ 124 → c ≠ 140 → c ≠ 141 → c ≠ 142 → h2 c = h c := fun c c1 c2 c3 c4 c5 c6 c7 c8 c9 c10 => (F2 c c6 c7 c8 c9 c10).trans (G c c1 c2 c3 c4 c5)
    have R0 := F2 0 (by decide) (by decide) (by decide) (by decide) (by decide)
    have R1 := F2 1 (by decide) (by decide) (by decide) (by decide) (by decide)
    have R4 := F2 4 (by decide) (by decide) (by decide) (by decide) (by decide)
    have R84 := F2 84 (by decide) (by decide) (by decide) (by decide) (by decide)
    have K2 : ∀ k, k ≠ 4 → (k < 17 ∨ 30 < k) → h2 123 k = h 123 k := fun k c1 c2 => (k2 k c1 c2).trans (congrFun (G 123 (by decide) (by decide) (by decide) (by decide) (by decide)) k)
    obtain ⟨hK, t', g, hz⟩ := q1
    have hcl := PSc_len hm hK g
    have wf := (gr_w g (nxt_V (B := fun k => and32 (h 85 k) 255) (n := b) tk1_V.2.1).1).2.2 rfl
    have hW := W_text (h := h) (h' := h2) (T := T) (K := K) (cs := cs) hX hR h6 hU hK.1 hcl (wf.2.2.1 (by decide) 0) wf.2.1 q2 (fun k c1 c2 => by rw [R1]; exact m1 k c1 c2) (by rw [R1]; exact m15) (by rw [R4]; exact m4T) (fun k c1 => by rw [R4]; exact m4 k c1) (fun c c1 c2 c3 => F c (by omega) (by omega) c3 (by omega) (by omega) (by omega) (by omega) (by omega) (by omega) (by omega)) w1 w2 w3 w4 (fun k c1 c2 c3 c4 => by rw [w5 k c1 c2 c3 c4, G 124 (by decide) (by decide) (by decide) (by decide) (by decide), hN])
    obtain ⟨hmid, e0, e1, e2, e3⟩ : ∃ hm : Nat → Nat → Int, (∀ c, (c < 32 ∨ c = 124) → hm c = h c) ∧ (∀ c, 32 ≤ c → c ≠ 123 → c ≠ 124 → hm c = h2 c) ∧ (∀ k, k ≠ 4 → hm 123 k = h2 123 k) ∧ hm 123 4 = h 123 4 := by
      refine ⟨fun c => if c < 32 ∨ c = 124 then h c else if c = 123 then up (h2 123) 4 (h 123 4) else h2 c, fun c hc => if_pos hc, fun c c1 c2 c3 => ?_, fun k hk => ?_, ?_⟩
      · show (if _ then _ else if _ then _ else _) = _
        rw [if_neg (by omega), if_neg c2]
      · show (if (123 < 32 ∨ 123 = 124) then h 123 else if 123 = 123 then up (h2 123) 4 (h 123 4) else h2 123) k = _
        rw [if_neg (by omega), if_pos rfl]
        exact if_neg hk
      · show (if (123 < 32 ∨ 123 = 124) then h 123 else if 123 = 123 then up (h2 123) 4 (h 123 4) else h2 123) 4 = _
        rw [if_neg (by omega), if_pos rfl]
        exact if_pos rfl
    have I1 : IVp n hmid (τ ++ [(4, 3, ft), (12, cs.length, cx)]) N J := by
      refine IV_o (IV_app hI) (fun c hc => ?_) (fun k _ => congrFun (e0 0 (by omega)) k) (fun k hk => ?_) (OT_tx (fun c hc => ?_) ?_ (congrFun (e0 0 (by omega)) 12) ((e2 17 (by decide)).trans z2) ((e2 44 (by decide)).trans (K2 44 (by decide) (by decide))) hO)
      · by_cases q : c < 32 ∨ c = 124
        · exact e0 c q
        · exact (e1 c (by omega) (by omega) (by omega)).trans (F c (by omega) (by omega) (by omega) (by omega) (by omega) (by omega) (by omega) (by omega) (by omega) (by omega))
      · by_cases q : k = 4
        · subst q; exact e3
        · exact (e2 k q).trans (K2 k q (by omega))
      · have p1 := (by decide : ∀ x, x ∈ RST → 32 ≤ x ∧ x ≠ 84 ∧ x ≠ 86 ∧ x ≠ 123 ∧ x ≠ 124 ∧ x ≠ 140 ∧ x ≠ 141 ∧ x ≠ 142) c hc
        obtain ⟨p1, p2, p3, p4, p5, p6, p7, p8⟩ := p1
        exact (e1 c p1 p4 p5).trans (F c (by omega) (by omega) (by omega) p2 p3 p4 p5 p6 p7 p8)
      · exact (congrFun (e1 84 (by decide) (by decide) (by decide)) 1).trans (by rw [R84]; exact m84)
    refine kE h2 _ (h2 124) J (IV_s I1 (fun c hc => ?_) (fun k hk => ?_) ?_ ?_ (fun k hk => (e2 k hk).symm) z4 rfl hW.1 hW.2)
    · unfold inW at hc
      exact (e1 c (by omega) (by omega) (by omega)).symm
    · rw [R0, m0 k hk, e0 0 (by omega)]
    · rw [R0, m03, e0 0 (by omega)]
    · rw [R1, m10, e0 0 (by omega)]
