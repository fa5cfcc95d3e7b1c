/-! THE CLAIM OUT OF ONE WALK OF THE LAW'S BODY. Your part is whole_start (and what it stands on); all else here is the same for every law, but numbers. -/
def R_law : String := "CreweChangeLaw"
def lw_P (b : Addr) (xs : List Int32) (args : Array Value) (s : State) : Prop := args = #[.ref b] ∧ s.IntsAt b xs ∧ xs.length ≤ 384 ∧ (Jvm.Cond.and given_1 narrow_1).before args s = true
def lw_Q (_ : Array Value) (s : State) (o : Outcome) (t : State) : Prop := o = .returned (some (.int 1)) ∧ Framed s o t [] 600000 7302250
def lw_Z (below : List Frame) (a : Array Value) (s : State) : State → Prop := fun t => ∃ o, t.status = .running ∧ Ended t below o ∧ lw_Q a s o t
/-- the law's own end, with 1 on the stack, nothing written that was there before, its room as the claim has it -/
theorem lw_ret {p : Program} {l : Launch} {e : Env} {s : State} {m : MethodId} {below : List Frame} {meth : Method} {c : Code} {b : Nat} (hx : p.tables.exec = Jvm.exec) (hb : c.code = code) (hr : meth.sig.returnType = ret) (hlocks : meth.locks = false) {pc : Nat} {H : Heap} {ls : Array Slot} (hdg : decode code pc = .ok (.ireturn, 1)) : W p l e room_1 s m #[Value.ref b] below meth c H [] 600000 7302250 (lw_Z below #[Value.ref b] s) (F0 m pc ls [.int 1]) := by
  intro T hT X
  obtain ⟨fs, hret, hrun, hended, hW, hframe⟩ := X.leave (v := some (.int 1)) (hlocks := hlocks) (fun h => by rw [hr] at h; cases h)
  have hmeth' : T.vm.method? m = some meth := X.method'
  refine ⟨T.setFrames fs, ?_, .returned (some (.int 1)), hrun, hended, rfl, ⟨_, rfl⟩, hW, hframe⟩
  jvm_step X.here [X.here.top, hx, hb, hdg, hmeth', hr, ret, narrow_b1]
  (try refine ⟨rfl, ?_⟩); (try refine ⟨rfl, ?_⟩)
  first | (intro acts; rw [hret _ acts rfl rfl rfl]) | rw [hret _ _ rfl rfl rfl]
  exact Steps.refl _
/-- what holds at the law's entry: the machine, the code, the tables' words (any of lw_tbl by 'hts w (by decide +kernel)'), the script of L ints xs at the cell b, what the Statement gives of the start (any of its parts by flat_of_before) -/
def lw_At (p : Program) (s : State) (m : MethodId) (meth : Method) (c : Code) (b L : Nat) (xs : Nat → Int32) : Prop :=
  p.tables.exec = Jvm.exec ∧ c.code = code ∧ meth.sig.returnType = ret ∧ c.maxLocals = 4 ∧ s.vm.findClass R_law = some m.cls ∧ (∀ w ∈ lw_tbl, w.before #[Value.ref b] s = true) ∧ va_X b L xs s s.heap ∧ b < s.heap.size ∧ meth.locks = false ∧ (Jvm.Cond.and given_1 narrow_1).before #[Value.ref b] s = true ∧ meth.name = "law"
-- ===== YOUR PART BEGINS =====
/-- YOUR PART: from the entry, for every script of at most 384 ints, the law comes to its end with true -/
theorem whole_start {p : Program} {e : Env} {s : State} {m : MethodId} {below : List Frame} {meth : Method} {c : Code} (l : Launch) {b L : Nat} {xs : Nat → Int32} (hL : L ≤ 384) (C0 : lw_At p s m meth c b L xs) : W p l e room_1 s m #[Value.ref b] below meth c s.heap [] 0 0 (lw_Z below #[Value.ref b] s) (entryFrame m ([Value.ref b] : List Value).toArray 4) := by
  obtain ⟨hx, hb, hr, hml, hown, hts, hX, hbl, hlocks, hgv, hnm⟩ := id C0
  have hA : ∀ a : Nat, a < s.heap.size → ¬ (fun q : Nat => s.heap.size ≤ q) a := fun a h => Nat.not_le.mpr h
  have hs := flat_of_before _ hgv
  obtain ⟨c0, i0, k0⟩ := u_known (C := RX0) (T := TX0) (N := 4) (n := 4) hts (fun w hw => (fl_X0 w hw).1) (hts _ xi_0)
  obtain ⟨c1, i1, k1⟩ := u_known (C := RX1) (T := TX1) (N := 3) (n := 3) hts (fun w hw => (fl_X1 w hw).1) (hts _ xi_1)
  obtain ⟨c2, i2, k2⟩ := u_known (C := RX2) (T := TX2) (N := 4) (n := 4) hts (fun w hw => (fl_X2 w hw).1) (hts _ xi_2)
  obtain ⟨c3, i3, k3⟩ := u_known (C := RX3) (T := TX3) (N := 9) (n := 9) hts (fun w hw => (fl_X3 w hw).1) (hts _ xi_3)
  obtain ⟨c4, i4, k4⟩ := u_known (C := RX4) (T := TX4) (N := 3) (n := 3) hts (fun w hw => (fl_X4 w hw).1) (hts _ xi_4)
  obtain ⟨c5, i5, k5⟩ := u_known (C := RX5) (T := TX5) (N := 19) (n := 19) hts (fun w hw => (fl_X5 w hw).1) (hts _ xi_5)
  obtain ⟨c6, i6, k6⟩ := u_known (C := RX6) (T := TX6) (N := 8) (n := 8) hts (fun w hw => (fl_X6 w hw).1) (hts _ xi_6)
  obtain ⟨c7, i7, k7⟩ := u_known (C := RX7) (T := TX7) (N := 16) (n := 16) hts (fun w hw => (fl_X7 w hw).1) (hts _ xi_7)
  obtain ⟨c8, i8, k8⟩ := u_known (C := RX8) (T := TX8) (N := 14) (n := 14) hts (fun w hw => (fl_X8 w hw).1) (hts _ xi_8)
  obtain ⟨c9, i9, k9⟩ := u_known (C := RX9) (T := TX9) (N := 45) (n := 45) hts (fun w hw => (fl_X9 w hw).1) (hts _ xi_9)
  obtain ⟨a10, ka10, cm10, fa10, fb10, fc10⟩ := Cond.arrayClass_spec (hts _ aw_byte)
  obtain ⟨a11, ka11, cm11, fa11, fb11, fc11⟩ := Cond.arrayClass_spec (hts _ aw_char)
  obtain ⟨a12, ka12, cm12, fa12, fb12, fc12⟩ := Cond.arrayClass_spec (hts _ aw_int)
  obtain ⟨a13, ka13, cm13, fa13, fb13, fc13⟩ := Cond.arrayClass_spec (hts _ aw_long)
  obtain ⟨a14, ka14, cm14, fa14, fb14, fc14⟩ := Cond.arrayClass_spec (hts _ aw_boolean)
  obtain ⟨cm15, a15, ka15, fa15, fb15, fc15, fd15, fe15⟩ := Cond.arrayOver_spec (hts _ xo_1)
  obtain ⟨cm16, a16, ka16, fa16, fb16, fc16, fd16, fe16⟩ := Cond.arrayOver_spec (hts _ xo_2)
  obtain ⟨cm17, a17, ka17, fa17, fb17, fc17, fd17, fe17⟩ := Cond.arrayOver_spec (hts _ xo_4)
  obtain ⟨cm18, a18, ka18, fa18, fb18, fc18, fd18, fe18⟩ := Cond.arrayOver_spec (hts _ xo_6)
  obtain ⟨adK, adV, hSt, hSe⟩ := vk_Sof (args := #[Value.ref b]) (s := s) (N := 11) (tm := fun i => Term.string RX3 (sidx.getD i 0)) (len := slen) (byt := sbyt) (A := fun q => s.heap.size ≤ q) (by decide) (fun i hi => hs _ (fl_ex i hi)) (fun i hi => hs _ (fl_co i hi)) (fun i hi => hs _ (fl_ar i hi)) (fun i hi => hs _ (fl_le i hi)) (fun i hi j hj => hs _ (fl_el i hi j hj)) (fun i j hi hj hij => by
    rcases Nat.lt_or_gt_of_ne hij with q | q
    · exact (fl_ne i hi j hj q).imp (hs _) (hs _)
    · exact ((fl_ne j hj i hi q).imp (hs _) (hs _)).symm) hA
  obtain ⟨tA, hta, hTA⟩ := va_Tof (args := #[Value.ref b]) (s := s) (tm := Term.static RX8 "ABOVE" "[I") (ty := .int) (N := 6) (f := fun j => .int (abv.getD j 0)) (A := fun q => s.heap.size ≤ q) (by decide) (hs _ fl_aa) (va_eqt (hs _ fl_al)) (fun j hj => va_eqt (hs _ (fl_ae j hj))) hA
  have hZA := va_Zref (hts _ xl_a) (hts _ xn_8) hta hA
  have hZC := va_Zof (v := .int 1) (hts _ xl_c) (hts _ xn_s) (va_eqt (hs _ fl_cs)) hA
  obtain ⟨tQ, hZQ⟩ : ∃ tQ : Nat, va_Z RJ3 "SIOOBE_FORMATTER" "Ljava/util/function/BiFunction;" .null (fun q => s.heap.size ≤ q) s s.heap ∨ va_Z RJ3 "SIOOBE_FORMATTER" "Ljava/util/function/BiFunction;" (.ref tQ) (fun q => s.heap.size ≤ q) s s.heap := by
    rcases va_Zqof (hts _ xl_s) (hts _ xn_p) (hs _ fl_si) hA with h | ⟨t, h⟩
    · exact ⟨0, Or.inl h⟩
    · exact ⟨t, Or.inr h⟩
  obtain ⟨kk, kb, kA, kQ, kK, kV⟩ : ∃ kk : Nat → Nat, kk 0 = b ∧ kk 1 = tA ∧ kk 24 = tQ ∧ (∀ i, i < 11 → kk (2 + 2 * i) = adK i) ∧ ∀ i, i < 11 → kk (3 + 2 * i) = adV i := by
    refine ⟨fun i => if i = 0 then b else if i = 1 then tA else if i = 24 then tQ else if i % 2 = 0 then adK ((i - 2) / 2) else adV ((i - 3) / 2), rfl, rfl, rfl, fun i hi => ?_, fun i hi => ?_⟩
    · show (if 2 + 2 * i = 0 then b else if 2 + 2 * i = 1 then tA else if 2 + 2 * i = 24 then tQ else if (2 + 2 * i) % 2 = 0 then adK ((2 + 2 * i - 2) / 2) else adV ((2 + 2 * i - 3) / 2)) = adK i
      rw [if_neg (by omega), if_neg (by omega), if_neg (by omega), if_pos (by omega), show (2 + 2 * i - 2) / 2 = i by omega]
    · show (if 3 + 2 * i = 0 then b else if 3 + 2 * i = 1 then tA else if 3 + 2 * i = 24 then tQ else if (3 + 2 * i) % 2 = 0 then adK ((3 + 2 * i - 2) / 2) else adV ((3 + 2 * i - 3) / 2)) = adV i
      rw [if_neg (by omega), if_neg (by omega), if_neg (by omega), if_neg (by omega), show (3 + 2 * i - 3) / 2 = i by omega]
  obtain ⟨γ, hγ⟩ : ∃ γ : GT, γ = (l, (fun k => [c0, c1, c2, c3, c4, c5, c6, c7, c8, c9].getD k c0), (fun k => [i0, i1, i2, i3, i4, i5, i6, i7, i8, i9].getD k i0), (fun k => [a10, a11, a12, a13, a14, a15, a16, a17, a18].getD (k - 10) a10), s.heap.size, kk, L, xs) := ⟨_, rfl⟩
  have hK1 : ∀ (k : Nat) (q : vw_C), vwCl[k]? = some q → u_Kn s q.1 q.2.1 q.2.2 ((g_D γ).1 k) ((g_D γ).2 k) := by
    subst hγ
    intro k q hq
    match k, hq with
    | 0, h => cases h; exact k0
    | 1, h => cases h; exact k1
    | 2, h => cases h; exact k2
    | 3, h => cases h; exact k3
    | 4, h => cases h; exact k4
    | 5, h => cases h; exact k5
    | 6, h => cases h; exact k6
    | 7, h => cases h; exact k7
    | 8, h => cases h; exact k8
    | 9, h => cases h; exact k9
    | k + 10, h => simp [vwCl] at h
  have hK2 : ∀ (k : Nat) (q : ClassId × FieldType), (tysL γ)[k]? = some q → ArrOfT s q.1 q.2 ∧ va_RA s q.1 q.2 := by
    subst hγ
    intro k q hq
    match k, hq with
    | 0, h => cases h; exact ⟨fun N z => ⟨(fun k h => by cases h), ka10, fb10, cm10, fc10⟩, fa10⟩
    | 1, h => cases h; exact ⟨fun N z => ⟨(fun k h => by cases h), ka11, fb11, cm11, fc11⟩, fa11⟩
    | 2, h => cases h; exact ⟨fun N z => ⟨(fun k h => by cases h), ka12, fb12, cm12, fc12⟩, fa12⟩
    | 3, h => cases h; exact ⟨fun N z => ⟨(fun k h => by cases h), ka13, fb13, cm13, fc13⟩, fa13⟩
    | 4, h => cases h; exact ⟨fun N z => ⟨(fun k h => by cases h), ka14, fb14, cm14, fc14⟩, fa14⟩
    | 5, h => cases h; exact ⟨fun N z => ⟨(fun k h => by cases h), ka15, fc15, cm15, fd15⟩, ⟨ka15, cm15, fc15, fd15, fa15, fe15⟩⟩
    | 6, h => cases h; exact ⟨fun N z => ⟨(fun k h => by cases h), ka16, fc16, cm16, fd16⟩, ⟨ka16, cm16, fc16, fd16, fa16, fe16⟩⟩
    | 7, h => cases h; exact ⟨fun N z => ⟨(fun k h => by cases h), ka17, fc17, cm17, fd17⟩, ⟨ka17, cm17, fc17, fd17, fa17, fe17⟩⟩
    | 8, h => cases h; exact ⟨fun N z => ⟨(fun k h => by cases h), ka18, fc18, cm18, fd18⟩, ⟨ka18, cm18, fc18, fd18, fa18, fe18⟩⟩
    | k + 9, h => simp [tysL] at h
  have hZ : Zc γ s s.heap := by
    subst hγ
    refine ⟨?_, ?_, ?_, ?_, ⟨fun i hi => ?_, fun i j hi hj e => ?_⟩, fun i hi => ?_, hZC, ?_⟩
    · show va_X (kk 0) L xs s s.heap
      rw [kb]; exact hX
    · show kk 0 < s.heap.size
      rw [kb]; exact hbl
    · show va_Z RX8 "ABOVE" "[I" (.ref (kk 1)) _ s s.heap
      rw [kA]; exact hZA
    · show va_T .int (kk 1) 6 _ _ s s.heap
      rw [kA]; exact hTA
    · have q := hSt.1 i hi
      rw [← kK i hi, ← kV i hi] at q
      exact q
    · have e' : kk (2 + 2 * i) = kk (2 + 2 * j) := e
      rw [kK i hi, kK j hj] at e'
      exact hSt.2 i j hi hj e'
    · refine vk_R.of (A := #[Value.ref b]) ?_ ?_
      · match i, hi with
      | 0, _ => exact hts _ xs_0
      | 1, _ => exact hts _ xs_1
      | 2, _ => exact hts _ xs_2
      | 3, _ => exact hts _ xs_3
      | 4, _ => exact hts _ xs_4
      | 5, _ => exact hts _ xs_5
      | 6, _ => exact hts _ xs_6
      | 7, _ => exact hts _ xs_7
      | 8, _ => exact hts _ xs_8
      | 9, _ => exact hts _ xs_9
      | 10, _ => exact hts _ xs_10
        | i + 11, h => exact absurd h (by omega)
      · show (Term.string RX3 (sidx.getD i 0)).eval #[Value.ref b] s none [] s = some (.ref (kk (2 + 2 * i)))
        rw [kK i hi]; exact hSe i hi
    · show va_Z RJ3 "SIOOBE_FORMATTER" "Ljava/util/function/BiFunction;" .null _ s s.heap ∨ va_Z RJ3 "SIOOBE_FORMATTER" "Ljava/util/function/BiFunction;" (.ref (kk 24)) _ s s.heap
      rw [kQ]; exact hZQ
  have hKs : Ks γ s := ⟨⟨hK1, hK2⟩, fun w hw hn => va_Nw.of (nest_tab hn) (hts w hw), fun C hC => by
    rcases List.mem_cons.mp hC with q | hC
    · rw [q]; exact va_AO.of (hts _ xo_1)
    rcases List.mem_cons.mp hC with q | hC
    · rw [q]; exact va_AO.of (hts _ xo_2)
    rcases List.mem_cons.mp hC with q | hC
    · rw [q]; exact va_AO.of (hts _ xo_4)
    · rw [List.mem_singleton.mp hC]; exact va_AO.of (hts _ xo_6), hZ⟩
  have hl := lv_entry ([.ref b]) (n := 4) (Nat.le_of_ble_eq_true rfl)
  rw [lg_entry_eq]
  generalize (lg_sl ([.ref b]) ++ List.replicate (4 - (lg_sl ([.ref b])).length) Slot.unset).toArray = ls at hl ⊢
  have hl : lv_has ls 4 [(0, .ref b)] := hl
  have hgb : g_b γ = s.heap.size := by rw [hγ]
  have hgL : g_L γ = L := by rw [hγ]
  have hgl : g_l γ = l := by rw [hγ]
  have hg0 : g_k γ 0 = b := by rw [hγ]; exact kb
  have h := law_0 (γ := γ) (d := 1000) (Post := fun r _ => r = some (vI 1)) (by decide) (by rw [hgL]; exact hL) (fun _ _ => rfl) p e room_1 s m #[Value.ref b] below meth c s.heap [] 0 0 0 (fun _ => 0) (fun _ => 0) ls
    ⟨hx, hb, hr, hlocks, hml, hown, hnm, fun w hw => hts w (List.mem_filter.mp hw).1, by decide, by decide, by decide, by decide, by rw [hgb]; exact Nat.le_refl _, hKs⟩
    ⟨va_S.rf, ⟨fun k q h => by simp [wl] at h, ⟨fun i j p q h => by simp [wl] at h, fun k q h => by simp [wl] at h⟩, fun k c h => by simp at h⟩, Nat.le_refl _, fun _ _ => rfl, fun v hv => absurd hv List.not_mem_nil, fun q hq => by rw [List.mem_singleton.mp hq]; trivial, by
      show lv_has ls 4 [(0, .ref (g_k γ 0))]
      rw [hg0]; exact hl⟩
  intro T hT X
  rw [hgl] at h
  obtain ⟨t, st, o, h1, h2, ⟨⟨r, ρ', σ', e1, e2, -⟩, -⟩, LL, h3, h4⟩ := h T hT X
  subst e2
  refine ⟨t, st, o, h1, h2, e1, h3.1, h3.2.1, ?_⟩
  have h5 := State.sameButNew.drop_fresh (L := []) (J := LL) h3.2.2 (fun q hq => by have := h4 q hq; rw [← hgb]; exact this)
  exact h5.mono (by decide) (by decide)
-- ===== YOUR PART ENDS =====
set_option maxHeartbeats 4000000 in
theorem lw_walk (l : Launch) (b : Addr) (xs : List Int32) : MetFree l x (headSpec (Jvm.Cond.code x code maxLocals ret :: tables_1) room_1) (lw_P b xs) (fun _ _ _ _ _ => True) lw_Q := by
  refine MetFree.of_bodyS (code := code) (maxLocals := maxLocals) (ret := ret) (by decide) ?_ ?_
  · intro args s m h hn
    obtain ⟨meth, c, h1, h2, h3, h4, h5, h6, -, -⟩ := Cond.code_spec hn (atoms_spec (ws := Jvm.Cond.code x code maxLocals ret :: tables_1) h _ List.mem_cons_self)
    exact ⟨meth, c, h1, h2, h3, h4, h5, h6⟩
  · intro p e s m args below meth c s₁ B hml0 hP _
    obtain ⟨rfl, hx, hbd, hgv⟩ := hP
    obtain ⟨scr, harrAt, hlist, hof, hsmall⟩ := hx
    obtain ⟨hcb, hkn, -, -⟩ := State.arrayAt?_spec harrAt
    have hown : s.vm.findClass R_law = some m.cls := findClass_of_methodNamed B.named
    have hts0 : ∀ c ∈ (Jvm.Cond.code x code maxLocals ret :: tables_1), c.before #[Value.ref b] s = true := atoms_spec (ws := Jvm.Cond.code x code maxLocals ret :: tables_1) B.pre
    have hts : ∀ w ∈ lw_tbl, w.before #[Value.ref b] s = true := k2_hts_sels lw_privs (fun w hw => hts0 w (List.mem_cons_of_mem _ hw)) lw_privs_ok
    have hml : c.maxLocals = 4 := B.maxLocals_eq (hts0 _ List.mem_cons_self)
    have X₀ : Stand p l e room_1 s m #[Value.ref b] below meth c s₁ [] 0 0 := Stand.of_body B
    have hh0 : s₁.heap = s.heap := by rw [B.state]; rfl
    have hsz : scr.slots.size = xs.length := by rw [← Array.length_toList, hlist, List.length_map]
    have hval : ∀ j : Nat, j < xs.length → scr.slots[j]? = some (.int (xs.getD j 0)) := fun j hj => by
      rw [← Array.getElem?_toList, hlist]
      simp [hj]
    have hbl : b < s.heap.size := (Array.getElem?_eq_some_iff.mp hcb).1
    have hX : va_X b xs.length (fun j => xs.getD j 0) s s.heap := ⟨scr, hcb, hof, hkn, hsz, hval⟩
    have K : W p l e room_1 s m #[Value.ref b] below meth c s₁.heap [] 0 0 (lw_Z below #[Value.ref b] s) (entryFrame m ([Value.ref b] : List Value).toArray 4) := by
      rw [hh0]
      exact whole_start l hbd ⟨B.exec, B.bytes, B.returns, hml, hown, hts, hX, hbl, B.notSynchronized, hgv, (name_of_methodNamed B.named B.method).1⟩
    obtain ⟨t, a1, o, b1, b2, b3⟩ := K s₁ rfl X₀
    exact ⟨t, o, a1, b1, b2, b3⟩
theorem lw_pre_spec {args : Array Value} {s : State} (h : (Jvm.Cond.and given_1 narrow_1).before args s = true) (hr : rest_1_c.before args s = true) : ∃ (b : Addr) (xs : List Int32), lw_P b xs args s := by
  have hs := flat_of_before _ h
  have hq := flat_of_before _ hr
  have hc : (Cond.count 1).before args s = true := hs _ (by decide +kernel)
  have harr : (Cond.arrayOf (.arg 0) .int).before args s = true := hs _ (by decide +kernel)
  have hle : (Cond.le (.length (.arg 0)) (.int 384)).before args s = true := hs _ (by decide +kernel)
  have hlen : (Cond.isInt (.length (.arg 0))).before args s = true := hq _ (by decide +kernel)
  have hall : (Cond.all (.arg 0) (.isInt (.elem (.arg 0) (.index 0)))).before args s = true := hq _ (by decide +kernel)
  obtain ⟨b, xs, hb, hx⟩ := State.ints_of_pre rfl harr hlen hall
  have hsm : xs.length < 2 ^ 31 := hx.choose_spec.2.2.2
  have hev : (Term.length (.arg 0)).eval args s none [] s = some (.int xs.length.toInt32) := hx.length_eval hb
  have hv := Cond.le_ints hev (show (Term.int 384).eval args s none [] s = some (.int 384) from rfl)
  have hd : xs.length.toInt32 ≤ 384 := by
    simpa [Cond.before, Cond.holds, hv] using hle
  have hN : xs.length ≤ 384 := (Int32.ofNat_le_ofNat hsm (by decide)).mp (show Int32.ofNat xs.length ≤ Int32.ofNat 384 from hd)
  exact ⟨b, xs, Cond.one_arg hc (show args[0]? = some (.ref b) from hb), hx, hN, h⟩
theorem lw_comes (l : Launch) : Comes l x (Jvm.Cond.code x code maxLocals ret :: tables_1) room_1 (fun tb e args s => Calls_1 tb e args s ∧ rest_1 tb e args s ∧ Pre_1 tb e args s)
    (fun _ _ args s o t => lw_Q args s o t) := by
  intro p e ha hc hk s m args below hf hfit hheap happ hpre
  obtain ⟨b, xs, hP⟩ := lw_pre_spec hpre.2.2 hpre.2.1
  obtain ⟨k, o, h1, h2, h3, hQ⟩ := lw_walk l b xs p e ha hc hk s m args below hf ((Spec.applies_iff_loose hf).mp happ).1 hP trivial
  exact ⟨k, o, h1, h2, h3, hQ⟩
theorem lw_frame {s t : State} {o : Outcome} {args : Array Value} (h : Framed s o t [] 600000 7302250) :
    Framed s o t (fieldLocs frame_1_writes args s ++ arrayLocs frame_1_arrays args s ++ staticLocs frame_1_statics s) 600000 7302250 := h
theorem lw_limb (L : Cond) (hL : ∀ (args : Array Value) (s t : State), L.after args s (.returned (some (.int 1))) t = true) :
    ArmFor flags0 classFile x code maxLocals ret World_1 tables_1 room_1 Calls_1 rest_1 Pre_1
      (fun tb e a s o t => postC L tb e a s o t ∧ Framed s o t (fieldLocs frame_1_writes a s ++ arrayLocs frame_1_arrays a s ++ staticLocs frame_1_statics s) 600000 7302250) := by
  intro l _ _ _ p e ha hc hk s m args below hf hfit hheap happ hpre
  obtain ⟨k, o, h1, h2, h3, rfl, hF⟩ := lw_comes l p e ha hc hk s m args below hf hfit hheap happ hpre
  exact ⟨k, _, h1, h2, h3, hL args s _, lw_frame hF⟩
theorem i_vc : Claimed_1_1 ∧ Claimed_1_2 := ⟨lw_limb limb_1_1 (fun args s t => by simp [limb_1_1, Cond.after, Cond.holds, Cond.value]), lw_limb limb_1_2 (fun args s t => Cond.after_iff.mpr (by
  first | (rw [show limb_1_2 = Cond.eq .result (.int 1) from rfl, Cond.eq_ints (x := 1) (y := 1) rfl rfl]; simp; done) | (simp [limb_1_2, Cond.value, Term.eval]; done)))⟩
