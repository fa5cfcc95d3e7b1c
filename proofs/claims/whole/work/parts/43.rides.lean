/-! RIDES -/
def zN (z : Int) : Int := w32 ((w32 (z * 1103515245)) + 12345)
def drF (z : Int) : Int := ushr32 (zN z) 8
theorem ushr_rng (a : Int) : 0 ≤ ushr32 a 8 ∧ ushr32 a 8 < 16777216 := by
  unfold ushr32
  generalize (Int32.ofInt a).toUInt32 = u
  have e : ((Int32.ofInt 8).toUInt32 &&& Int32.toUInt32 31) = 8 := by decide
  rw [e]
  have h1 : (u >>> 8).toNat = u.toNat / 256 := by
    rw [UInt32.toNat_shiftRight]
    show u.toNat >>> 8 = _
    rw [Nat.shiftRight_eq_div_pow]
  have h2 := u.toNat_lt
  have h3 : (u >>> 8).toNat < 16777216 := by rw [h1]; omega
  have h4 : (u >>> 8).toInt32.toInt = ((u >>> 8).toNat : Int) := by
    show (u >>> 8).toBitVec.toInt = _
    rw [BitVec.toInt_eq_toNat_of_lt (by show 2 * (u >>> 8).toNat < _; omega)]
    rfl
  rw [h4]
  omega
theorem dr_rng (z : Int) : 0 ≤ drF z ∧ drF z < 16777216 := ushr_rng _
def stF (T : Nat → Nat → Int) (t : Nat) (r : Int) : Nat := if r < T 8 (4 * t) then 0 else if r < T 8 (4 * t) + T 8 (4 * t + 1) then 1 else if r < T 8 (4 * t) + T 8 (4 * t + 1) + T 8 (4 * t + 2) then 2 else 3
theorem stF_lt (T : Nat → Nat → Int) (t : Nat) (r : Int) : stF T t r < 4 := by
  unfold stF
  split
  · omega
  · split
    · omega
    · split <;> omega
def RDF (T : Nat → Nat → Int) : Nat → Int → Int → Int → Int → Int × Int × Int
  | 0, s, m, z, c => (if s = T 0 0 then m else 2880, c, z)
  | f + 1, s, m, z, c => if TK T s m < 0 then (if s = T 0 0 then m else 2880, c, z) else RDF T f (T 3 (Int.toNat (TK T s m))) (arT T (Int.toNat (TK T s m)) (stF T (Int.toNat (TK T s m)) (drF z % 100)) m) (zN z) (c + 1)
theorem RDF_0 {T : Nat → Nat → Int} {f : Nat} {s m z c : Int} (h : TK T s m < 0) : RDF T f s m z c = (if s = T 0 0 then m else 2880, c, z) := by
  cases f with
  | zero => rfl
  | succ f => show (if TK T s m < 0 then _ else _) = _; rw [if_pos h]
theorem RDF_s {T : Nat → Nat → Int} {f t : Nat} {s m z c : Int} (h : TK T s m = (t : Int)) : RDF T (f + 1) s m z c = RDF T f (T 3 t) (arT T t (stF T t (drF z % 100)) m) (zN z) (c + 1) := by
  show (if TK T s m < 0 then _ else _) = _
  rw [if_neg (by omega), h]
  rfl
theorem TK_late {T : Nat → Nat → Int} (hT : tOK T) {s m : Int} (h : 1590 ≤ m) : TK T s m = -1 := by
  unfold TK
  split
  · rfl
  · rw [bsT_none (fun i hi he => by have := lsT_rng hT i; omega)]
theorem TK_rng {T : Nat → Nat → Int} (hT : tOK T) (s m : Int) : -1 ≤ TK T s m ∧ TK T s m < T 0 2 := by
  have h2 := hT.2.2.1
  have := bsT_rng 0 T (WT 0 T) s m (Int.toNat (T 0 2))
  unfold TK
  split <;> omega
theorem TK_goal {T : Nat → Nat → Int} {m : Int} : TK T (T 0 0) m = -1 := if_pos rfl
theorem c_X5_stepByT {γ : GT} {d : Nat} {T : Nat → Nat → Int} {t : Nat} {r : Int} {h : Nat → Nat → Int} {τ : List AC} {Post : Option AV → List AC → Prop} (hd : 0 ≤ d) (hT : tOK T) (hTT : TT h T) (ht : (t : Int) < T 0 2) (kQ : Post (some (vI ((stF T t r : Nat) : Int))) (mk h τ)) : Cj γ mX5_stepBy d 0 0 [vA 63, vI ((t : Nat) : Int), vI r] (mk h τ) Post := by
  have h2 := hT.2.2.1
  have q := hT.2.2.2.2.2 t
  have q0 := (q.2.2.2.2.2.2.1 0 (by omega)).1
  have q1 := (q.2.2.2.2.2.2.1 1 (by omega)).1
  have q2 := (q.2.2.2.2.2.2.1 2 (by omega)).1
  have c := (hTT.2.2.1 t ht).2.2.2.2.2.2
  rw [Nat.add_zero] at q0
  have c0 := (c 0 (by omega)).1
  rw [Nat.add_zero] at c0
  refine c_X5_stepBy (v1 := T 8 (4 * t)) (v2 := T 8 (4 * t + 1)) (v3 := T 8 (4 * t + 2)) hd ((congrArg (h 71) (show Int.toNat ((((t : Nat) : Int) * 4) + 0) = 4 * t by omega)).trans c0) ((congrArg (h 71) (show Int.toNat ((((t : Nat) : Int) * 4) + 1) = 4 * t + 1 by omega)).trans (c 1 (by omega)).1) ((congrArg (h 71) (show Int.toNat ((((t : Nat) : Int) * 4) + 2) = 4 * t + 2 by omega)).trans (c 2 (by omega)).1) (by omega) q0 q1 q2 (fun a b e => post_v kQ ?_) (fun a b e => post_v kQ ?_) (fun a b => post_v kQ ?_) (fun a => post_v kQ ?_)
  · unfold stF; rw [if_neg (by omega), if_neg (by omega), if_neg (by omega)]; rfl
  · unfold stF; rw [if_neg (by omega), if_neg (by omega), if_pos (by omega)]; rfl
  · unfold stF; rw [if_neg (by omega), if_pos (by omega)]; rfl
  · unfold stF; rw [if_pos (by omega)]; rfl
set_option maxHeartbeats 8000000 in
theorem l_ride1 {γ : GT} {d : Nat} {T : Nat → Nat → Int} {s0 m0 : Int} {R : Int × Int × Int} {h : Nat → Nat → Int} {τ : List AC} {Post : Option AV → List AC → Prop} (hd : 5 ≤ d) (hT : tOK T) (hTT : TT h T) (hk0 : h 78 0 = 0) (hCH : CHp h 78 0 T (plT T 0)) (hg9 : h 1 9 = T 0 0) (kQ : ∀ h' e c' z', (e, c', z') = R → Fr [0, 1, 78] h h' → (∀ k, k ≠ 8 → h' 0 k = h 0 k) → h' 0 8 = c' → (∀ k, k ≠ 15 → h' 1 k = h 1 k) → h' 1 15 = z' → (∀ k, k ≠ 3 → h' 78 k = h 78 k) → Post (some (vI e)) (mk h' τ)) :
    ∀ (f i : Nat) (s m z c : Int) (h1 : Nat → Nat → Int), i + f = 1600 → 0 ≤ s ∧ s ≤ 5 → 0 ≤ m ∧ m ≤ 5000 → 1600 ≤ m + f → 0 ≤ c → c ≤ i → Fr [0, 1, 78] h h1 → (∀ k, k ≠ 8 → h1 0 k = h 0 k) → h1 0 8 = c → (∀ k, k ≠ 15 → h1 1 k = h 1 k) → h1 1 15 = z → (∀ k, k ≠ 3 → h1 78 k = h 78 k) → R = RDF T f s m z c → Aj γ mX8_rideOn d 0 0 Post 14 [(6, vI ((i : Nat) : Int)), (4, vI s), (5, vI m), (0, vA 0), (1, vA 1), (2, vI s0), (3, vI m0)] [] (mk h1 τ) := by
  intro f
  induction f with
  | zero =>
    intro i s m z c h1 hif hs hm hmf hc0 hci hF i0 i8 iw iz ib hR
    have h2_ := hT.2.2.1
    have h3_ := hT.2.2.2.1
    have hdr := dr_rng z
    have hTK := TK_rng hT s m
    have hlate := TK_late hT (s := s) (m := m) (by omega)
    refine a_iload (j := 0) dX8_rideOn_14 rfl ?_
    refine a_ldcw (z := 100000) dX8_rideOn_16 kwX8_354 ⟨by decide, by decide, by decide⟩ ?_
    refine a_icmp_ge (tgt := 120) dX8_rideOn_19 (by decide) (fun c19_1 => absurd c19_1 (by omega)) (fun c19_1 => ?_)
    refine a_iload (j := 1) dX8_rideOn_22 rfl ?_
    refine a_aload_n (j := 4) dX8_rideOn_24 rfl rfl (Nat.le_of_ble_eq_true rfl) ?_
    refine b_get (a := 1) (z := T 0 0) (t := 0) dX8_rideOn_25 fwX8_198 (by decide) rfl (by decide) rfl rfl ((iw 9 (by decide)).trans hg9) ?_
    refine a_icmp_eq (tgt := 120) dX8_rideOn_28 (by decide) (fun c28_2 => ?_) (fun c28_2 => ?_)
    · refine a_iload (j := 2) dX8_rideOn_120 rfl ?_
      exact a_iret dX8_rideOn_122 rfl (kQ h1 m c z (by rw [hR, RDF_0 (by rw [show s = T 0 0 by omega, TK_goal]; omega), if_pos (by omega)]) hF i0 i8 iw iz ib)
    · refine a_aload_n (j := 3) dX8_rideOn_31 rfl rfl (Nat.le_of_ble_eq_true rfl) ?_
      refine b_getp (a := 0) (p := 78) dX8_rideOn_32 fwX8_33 (by decide) rfl (by decide) rfl rfl ?_
      refine a_aload_n (j := 3) dX8_rideOn_35 rfl rfl (Nat.le_of_ble_eq_true rfl) ?_
      refine b_getp (a := 0) (p := 63) dX8_rideOn_36 fwX8_24 (by decide) rfl (by decide) rfl rfl ?_
      refine a_iload (j := 1) dX8_rideOn_39 rfl ?_
      refine a_iload (j := 2) dX8_rideOn_41 rfl ?_
      refine b_callV (d' := d - 1) (mc' := 0) (ms' := 0) (mc1 := 0) (ms1 := 0) (st := []) (b := 78) [vA 63, vI s, vI m] dX8_rideOn_43 mwX0_bestTrain lkX8_215 (by decide) rfl rc_X0 rfl (Nat.le_of_ble_eq_true rfl) (by omega) rfl rfl (c_X0_bestTrain_78 (κ := 0) (T := T) (s := s) (m := m) (P := plT T 0) (by omega) ((ib 0 (by decide)).trans hk0) rfl hT (TT_fr (by decide) hF hTT) (by omega) (by omega) (CHp_fr (hF 79 (by decide)) hCH) (fun _ => plT_mono (by omega)) (fun h8 hF8 j8 _ => ?_))
      show Aj γ mX8_rideOn d 0 0 Post 46 [(6, vI ((i : Nat) : Int)), (4, vI s), (5, vI m), (0, vA 0), (1, vA 1), (2, vI s0), (3, vI m0)] [vI (hsF (TK T s m))] (mk h8 τ)
      refine a_istore (lv' := [(7, vI (hsF (TK T s m))), (6, vI ((i : Nat) : Int)), (4, vI s), (5, vI m), (0, vA 0), (1, vA 1), (2, vI s0), (3, vI m0)]) dX8_rideOn_46 (by decide) rfl ?_
      refine a_iload (j := 0) dX8_rideOn_48 rfl ?_
      refine a_ldc (z := (-1000000005)) dX8_rideOn_50 kwX8_159 ⟨by decide, by decide, by decide⟩ ?_
      refine a_icmp_ne (tgt := 59) dX8_rideOn_52 (by decide) (fun c52_3 => ?_) (fun c52_3 => ?_)
      · exfalso
        have := hsF_c (TK T s m)
        omega
      · have htn : TK T s m < 0 := by have := hsF_c (TK T s m); omega
        refine a_sipush dX8_rideOn_55 ⟨by decide, by decide, by decide⟩ ?_
        exact a_iret dX8_rideOn_58 rfl (kQ h8 2880 c z (by rw [hR, RDF_0 htn, if_neg (by omega)]) (Fr_t hF (Fr_m (by decide) hF8)) (fun k hk => (Fr_v hF8 (by decide)).trans (i0 k hk)) ((Fr_v hF8 (by decide)).trans i8) (fun k hk => (Fr_v hF8 (by decide)).trans (iw k hk)) ((Fr_v hF8 (by decide)).trans iz) (fun k hk => (j8 k hk).trans (ib k hk)))
  | succ f ih =>
    intro i s m z c h1 hif hs hm hmf hc0 hci hF i0 i8 iw iz ib hR
    have h2_ := hT.2.2.1
    have h3_ := hT.2.2.2.1
    have hdr := dr_rng z
    have hTK := TK_rng hT s m
    refine a_iload (j := 0) dX8_rideOn_14 rfl ?_
    refine a_ldcw (z := 100000) dX8_rideOn_16 kwX8_354 ⟨by decide, by decide, by decide⟩ ?_
    refine a_icmp_ge (tgt := 120) dX8_rideOn_19 (by decide) (fun c19_1 => absurd c19_1 (by omega)) (fun c19_1 => ?_)
    refine a_iload (j := 1) dX8_rideOn_22 rfl ?_
    refine a_aload_n (j := 4) dX8_rideOn_24 rfl rfl (Nat.le_of_ble_eq_true rfl) ?_
    refine b_get (a := 1) (z := T 0 0) (t := 0) dX8_rideOn_25 fwX8_198 (by decide) rfl (by decide) rfl rfl ((iw 9 (by decide)).trans hg9) ?_
    refine a_icmp_eq (tgt := 120) dX8_rideOn_28 (by decide) (fun c28_2 => ?_) (fun c28_2 => ?_)
    · refine a_iload (j := 2) dX8_rideOn_120 rfl ?_
      exact a_iret dX8_rideOn_122 rfl (kQ h1 m c z (by rw [hR, RDF_0 (by rw [show s = T 0 0 by omega, TK_goal]; omega), if_pos (by omega)]) hF i0 i8 iw iz ib)
    · refine a_aload_n (j := 3) dX8_rideOn_31 rfl rfl (Nat.le_of_ble_eq_true rfl) ?_
      refine b_getp (a := 0) (p := 78) dX8_rideOn_32 fwX8_33 (by decide) rfl (by decide) rfl rfl ?_
      refine a_aload_n (j := 3) dX8_rideOn_35 rfl rfl (Nat.le_of_ble_eq_true rfl) ?_
      refine b_getp (a := 0) (p := 63) dX8_rideOn_36 fwX8_24 (by decide) rfl (by decide) rfl rfl ?_
      refine a_iload (j := 1) dX8_rideOn_39 rfl ?_
      refine a_iload (j := 2) dX8_rideOn_41 rfl ?_
      refine b_callV (d' := d - 1) (mc' := 0) (ms' := 0) (mc1 := 0) (ms1 := 0) (st := []) (b := 78) [vA 63, vI s, vI m] dX8_rideOn_43 mwX0_bestTrain lkX8_215 (by decide) rfl rc_X0 rfl (Nat.le_of_ble_eq_true rfl) (by omega) rfl rfl (c_X0_bestTrain_78 (κ := 0) (T := T) (s := s) (m := m) (P := plT T 0) (by omega) ((ib 0 (by decide)).trans hk0) rfl hT (TT_fr (by decide) hF hTT) (by omega) (by omega) (CHp_fr (hF 79 (by decide)) hCH) (fun _ => plT_mono (by omega)) (fun h8 hF8 j8 _ => ?_))
      show Aj γ mX8_rideOn d 0 0 Post 46 [(6, vI ((i : Nat) : Int)), (4, vI s), (5, vI m), (0, vA 0), (1, vA 1), (2, vI s0), (3, vI m0)] [vI (hsF (TK T s m))] (mk h8 τ)
      refine a_istore (lv' := [(7, vI (hsF (TK T s m))), (6, vI ((i : Nat) : Int)), (4, vI s), (5, vI m), (0, vA 0), (1, vA 1), (2, vI s0), (3, vI m0)]) dX8_rideOn_46 (by decide) rfl ?_
      refine a_iload (j := 0) dX8_rideOn_48 rfl ?_
      refine a_ldc (z := (-1000000005)) dX8_rideOn_50 kwX8_159 ⟨by decide, by decide, by decide⟩ ?_
      refine a_icmp_ne (tgt := 59) dX8_rideOn_52 (by decide) (fun c52_3 => ?_) (fun c52_3 => ?_)
      · have hsf := hsF_c (TK T s m)
        obtain ⟨tk, htk⟩ : ∃ tk : Nat, TK T s m = (tk : Int) := ⟨Int.toNat (TK T s m), by omega⟩
        rw [show hsF (TK T s m) = ((tk : Nat) : Int) by omega]
        have hml : m ≤ 1589 := by rcases Int.lt_or_le m 1590 with q | q; omega; (have := TK_late hT (s := s) q; omega)
        obtain ⟨sp, hsp⟩ : ∃ sp : Nat, sp = stF T tk (drF z % 100) := ⟨_, rfl⟩
        have hsp4 := stF_lt T tk (drF z % 100)
        rw [← hsp] at hsp4
        have qa := hT.2.2.2.2.2 tk
        have qa3 := qa.2.1
        have qa4 := qa.2.2.1
        have qa5 := qa.2.2.2.1
        have qa6 := qa.2.2.2.2.1
        have qa7 := qa.2.2.2.2.2.1
        have qa8 := (qa.2.2.2.2.2.2.2 (by omega))
        have qaw := hT.2.2.2.2.1 (Int.toNat (T 3 tk))
        have qa9sp := qa.2.2.2.2.2.2.1 sp (by omega)
        have har := arT_rng hT (t := tk) (s := sp) (m := m) (by omega)
        refine a_aload_n (j := 4) dX8_rideOn_59 rfl rfl (Nat.le_of_ble_eq_true rfl) ?_
        refine b_getp (a := 0) (p := 63) dX8_rideOn_60 fwX8_24 (by decide) rfl (by decide) rfl rfl ?_
        refine a_iload (j := 0) dX8_rideOn_63 rfl ?_
        refine a_aload_n (j := 5) dX8_rideOn_65 rfl rfl (Nat.le_of_ble_eq_true rfl) ?_
        refine b_callV (d' := d - 1) (mc' := 0) (ms' := 0) (mc1 := 0) (ms1 := 0) (st := [vI ((tk : Nat) : Int), vA 63]) (b := 1) [] dX8_rideOn_66 mwX7_draw lkX8_355 (by decide) rfl rc_X7 rfl (Nat.le_of_ble_eq_true rfl) (by omega) rfl rfl (c_X7_draw (v1 := z) (by omega) (Or.inl rfl) ((Fr_v hF8 (by decide)).trans iz)  ?_)
        show Aj γ mX8_rideOn d 0 0 Post 69 [(7, vI ((tk : Nat) : Int)), (6, vI ((i : Nat) : Int)), (4, vI s), (5, vI m), (0, vA 0), (1, vA 1), (2, vI s0), (3, vI m0)] [vI (ushr32 (w32 ((w32 (z * 1103515245)) + 12345)) 8), vI ((tk : Nat) : Int), vA 63] (mk (up2 h8 1 15 (w32 ((w32 (z * 1103515245)) + 12345))) τ)
        show Aj γ mX8_rideOn d 0 0 Post 69 [(7, vI ((tk : Nat) : Int)), (6, vI ((i : Nat) : Int)), (4, vI s), (5, vI m), (0, vA 0), (1, vA 1), (2, vI s0), (3, vI m0)] [vI (drF z), vI ((tk : Nat) : Int), vA 63] (mk (up2 h8 1 15 (zN z)) τ)
        refine a_bipush dX8_rideOn_69 ⟨by decide, by decide, by decide⟩ ?_
        refine a_irem (z := ((drF z) % 100)) dX8_rideOn_71 (by omega) (w_remN (by omega) (by omega) (by omega)) ?_
        refine b_callV (d' := d - 1) (mc' := 0) (ms' := 0) (mc1 := 0) (ms1 := 0) (st := []) (b := 63) [vI ((tk : Nat) : Int), vI ((drF z) % 100)] dX8_rideOn_72 mwX5_stepBy lkX8_358 (by decide) rfl rc_X5 rfl (Nat.le_of_ble_eq_true rfl) (by omega) rfl rfl (c_X5_stepByT (T := T) (t := tk) (r := ((drF z) % 100)) (by omega) hT (TT_fr (L := [1, 0, 78]) (by decide) (Fr_t (Fr_m (by decide) hF) (Fr_t (Fr_m (by decide) hF8) (Fr_u (by decide) Fr_r))) hTT) (by omega) ?_)
        rw [← hsp]
        show Aj γ mX8_rideOn d 0 0 Post 75 [(7, vI ((tk : Nat) : Int)), (6, vI ((i : Nat) : Int)), (4, vI s), (5, vI m), (0, vA 0), (1, vA 1), (2, vI s0), (3, vI m0)] [vI ((sp : Nat) : Int)] (mk (up2 h8 1 15 (zN z)) τ)
        refine a_istore (lv' := [(8, vI ((sp : Nat) : Int)), (7, vI ((tk : Nat) : Int)), (6, vI ((i : Nat) : Int)), (4, vI s), (5, vI m), (0, vA 0), (1, vA 1), (2, vI s0), (3, vI m0)]) dX8_rideOn_75 (by decide) rfl ?_
        refine a_aload_n (j := 5) dX8_rideOn_77 rfl rfl (Nat.le_of_ble_eq_true rfl) ?_
        refine b_getp (a := 0) (p := 63) dX8_rideOn_78 fwX8_24 (by decide) rfl (by decide) rfl rfl ?_
        refine a_iload (j := 1) dX8_rideOn_81 rfl ?_
        refine a_iload (j := 0) dX8_rideOn_83 rfl ?_
        refine a_iload (j := 4) dX8_rideOn_85 rfl ?_
        refine b_callV (d' := d - 1) (mc' := 0) (ms' := 0) (mc1 := 0) (ms1 := 0) (st := []) (b := 63) [vI ((tk : Nat) : Int), vI ((sp : Nat) : Int), vI m] dX8_rideOn_87 mwX5_arrival lkX8_361 (by decide) rfl rc_X5 rfl (Nat.le_of_ble_eq_true rfl) (by omega) rfl rfl (c_X5_arrival (v1 := (T 9 (4 * tk + sp))) (v2 := (T 4 tk)) (v3 := (T 3 tk)) (v4 := (T 1 (Int.toNat (T 3 tk)))) (v5 := (T 0 0)) (by omega)  ((up2_ne (by omega)).trans ((Fr_v hF8 (by decide)).trans ((Fr_v hF (by decide)).trans ((congrArg (h 72) (show (Int.toNat ((((tk : Nat) : Int) * 4) + ((sp : Nat) : Int))) = (4 * tk + sp) by omega)).trans ((hTT.2.2.1 tk (by omega)).2.2.2.2.2.2 sp (by omega)).2)))) ((up2_ne (by omega)).trans ((Fr_v hF8 (by decide)).trans ((Fr_v hF (by decide)).trans ((congrArg (h 67) (show (Int.toNat ((tk : Nat) : Int)) = tk by omega)).trans (hTT.2.2.1 tk (by omega)).2.2.1)))) ((up2_ne (by omega)).trans ((Fr_v hF8 (by decide)).trans ((Fr_v hF (by decide)).trans ((congrArg (h 66) (show (Int.toNat ((tk : Nat) : Int)) = tk by omega)).trans (hTT.2.2.1 tk (by omega)).2.1)))) ((up2_ne (by omega)).trans ((Fr_v hF8 (by decide)).trans ((Fr_v hF (by decide)).trans (hTT.2.1 _ (by omega))))) ((up2_ne (by omega)).trans ((Fr_v hF8 (by decide)).trans ((Fr_v hF (by decide)).trans hTT.1.1))) (show 0 ≤ ((tk : Nat) : Int) ∧ ((tk : Nat) : Int) ≤ 11 by omega) (show 0 ≤ ((sp : Nat) : Int) ∧ ((sp : Nat) : Int) ≤ 3 by omega) (show 0 ≤ (T 9 (4 * tk + sp)) ∧ (T 9 (4 * tk + sp)) ≤ 3000 by omega) (show 1 ≤ (T 4 tk) ∧ (T 4 tk) ≤ 600 by omega) (show 0 ≤ (T 3 tk) ∧ (T 3 tk) ≤ 5 by omega) (show 0 ≤ (T 1 (Int.toNat (T 3 tk))) ∧ (T 1 (Int.toNat (T 3 tk))) ≤ 99 by omega) (show 0 ≤ m ∧ m ≤ 5000 by omega) ?_)
        show Aj γ mX8_rideOn d 0 0 Post 90 [(8, vI ((sp : Nat) : Int)), (7, vI ((tk : Nat) : Int)), (6, vI ((i : Nat) : Int)), (4, vI s), (5, vI m), (0, vA 0), (1, vA 1), (2, vI s0), (3, vI m0)] [vI (arrF (T 9 (4 * tk + sp)) m (T 4 tk) (T 3 tk) (T 0 0) (T 1 (Int.toNat (T 3 tk))))] (mk (up2 h8 1 15 (zN z)) τ)
        show Aj γ mX8_rideOn d 0 0 Post 90 [(8, vI ((sp : Nat) : Int)), (7, vI ((tk : Nat) : Int)), (6, vI ((i : Nat) : Int)), (4, vI s), (5, vI m), (0, vA 0), (1, vA 1), (2, vI s0), (3, vI m0)] [vI (arT T tk sp m)] (mk (up2 h8 1 15 (zN z)) τ)
        refine a_istore (lv' := [(5, vI (arT T tk sp m)), (8, vI ((sp : Nat) : Int)), (7, vI ((tk : Nat) : Int)), (6, vI ((i : Nat) : Int)), (4, vI s), (0, vA 0), (1, vA 1), (2, vI s0), (3, vI m0)]) dX8_rideOn_90 (by decide) rfl ?_
        refine a_aload_n (j := 5) dX8_rideOn_92 rfl rfl (Nat.le_of_ble_eq_true rfl) ?_
        refine b_getp (a := 0) (p := 63) dX8_rideOn_93 fwX8_24 (by decide) rfl (by decide) rfl rfl ?_
        refine b_getp (a := 63) (p := 66) dX8_rideOn_96 fwX8_364 (by decide) rfl (by decide) rfl rfl ?_
        refine a_iload (j := 2) dX8_rideOn_99 rfl ?_
        refine b_iaload (a := 66) (z := T 3 tk) tk dX8_rideOn_101 (by decide) rfl rfl (by omega) (sp_nil rfl _) ((up2_ne (by omega)).trans ((Fr_v hF8 (by decide)).trans ((Fr_v hF (by decide)).trans (hTT.2.2.1 tk (by omega)).2.1))) (fun r101_4 => ?_)
        refine a_istore (lv' := [(4, vI (T 3 tk)), (5, vI (arT T tk sp m)), (8, vI ((sp : Nat) : Int)), (7, vI ((tk : Nat) : Int)), (6, vI ((i : Nat) : Int)), (0, vA 0), (1, vA 1), (2, vI s0), (3, vI m0)]) dX8_rideOn_102 (by decide) rfl ?_
        refine a_aload_n (j := 5) dX8_rideOn_104 rfl rfl (Nat.le_of_ble_eq_true rfl) ?_
        refine a_dup dX8_rideOn_105 (fun h => nomatch h) ?_
        refine b_get (a := 0) (z := c) (t := 0) dX8_rideOn_106 fwX8_351 (by decide) rfl (by decide) rfl rfl ((up2_ne (by omega)).trans ((Fr_v hF8 (by decide)).trans i8)) ?_
        refine a_iconst dX8_rideOn_109 ⟨by decide, by decide⟩ ?_
        refine a_iadd (z := (c + 1)) dX8_rideOn_110 (w_ok (by omega) (by omega)) ?_
        refine b_put (a := 0) (v := vI (c + 1)) dX8_rideOn_111 pwX8_351 (fun h => nomatch h) (by decide) rfl (by decide) rfl rfl (fit_int _) ?_
        show Aj γ mX8_rideOn d 0 0 Post 114 [(4, vI (T 3 tk)), (5, vI (arT T tk sp m)), (8, vI ((sp : Nat) : Int)), (7, vI ((tk : Nat) : Int)), (6, vI ((i : Nat) : Int)), (0, vA 0), (1, vA 1), (2, vI s0), (3, vI m0)] [] (mk (up2 (up2 h8 1 15 (zN z)) 0 8 (c + 1)) τ)
        refine a_iinc (j := 4) (z' := ((i + 1 : Nat) : Int)) (lv' := [(6, vI ((i + 1 : Nat) : Int)), (4, vI (T 3 tk)), (5, vI (arT T tk sp m)), (8, vI ((sp : Nat) : Int)), (7, vI ((tk : Nat) : Int)), (0, vA 0), (1, vA 1), (2, vI s0), (3, vI m0)]) dX8_rideOn_114 rfl (w_okN (by omega) (by omega) (by omega)) (by decide) rfl ?_
        refine a_goto (tgt := 14) dX8_rideOn_117 (by decide) ?_
        refine a_lv (lv' := [(6, vI (((i + 1) : Nat) : Int)), (4, vI (T 3 tk)), (5, vI (arT T tk sp m)), (0, vA 0), (1, vA 1), (2, vI s0), (3, vI m0)]) (by intro q hq; simp only [List.mem_cons, List.not_mem_nil, or_false] at hq ⊢; rcases hq with rfl | rfl | rfl | rfl | rfl | rfl | rfl <;> simp) (ih (i + 1) (T 3 tk) (arT T tk sp m) (zN z) (c + 1) (up2 (up2 h8 1 15 (zN z)) 0 8 (c + 1)) (by omega) (by omega) (by omega) (by omega) (by omega) (by omega) (Fr_u (by decide) (Fr_u (by decide) (Fr_t (Fr_m (by decide) hF) (Fr_m (by decide) hF8)))) (fun k hk => ((up2_ne (by omega)).trans ((up2_ne (by omega)).trans ((Fr_v hF8 (by decide)).trans rfl))).trans (i0 k hk)) up2_at (fun k hk => ((up2_ne (by omega)).trans ((up2_ne (by omega)).trans ((Fr_v hF8 (by decide)).trans rfl))).trans (iw k hk)) ((up2_ne (by omega)).trans up2_at) (fun k hk => ((up2_ne (by omega)).trans ((up2_ne (by omega)).trans (j8 k hk))).trans (ib k hk)) (hR.trans (by rw [RDF_s htk, ← hsp])))
      · have htn : TK T s m < 0 := by have := hsF_c (TK T s m); omega
        refine a_sipush dX8_rideOn_55 ⟨by decide, by decide, by decide⟩ ?_
        exact a_iret dX8_rideOn_58 rfl (kQ h8 2880 c z (by rw [hR, RDF_0 htn, if_neg (by omega)]) (Fr_t hF (Fr_m (by decide) hF8)) (fun k hk => (Fr_v hF8 (by decide)).trans (i0 k hk)) ((Fr_v hF8 (by decide)).trans i8) (fun k hk => (Fr_v hF8 (by decide)).trans (iw k hk)) ((Fr_v hF8 (by decide)).trans iz) (fun k hk => (j8 k hk).trans (ib k hk)))
theorem c_X8_rideOn_1 {γ : GT} {d : Nat} {T : Nat → Nat → Int} {s m z : Int} {h : Nat → Nat → Int} {τ : List AC} {Post : Option AV → List AC → Prop} (hd : 5 ≤ d) (hT : tOK T) (hTT : TT h T) (hk0 : h 78 0 = 0) (hCH : CHp h 78 0 T (plT T 0)) (hg9 : h 1 9 = T 0 0) (hz : h 1 15 = z) (hs : 0 ≤ s ∧ s ≤ 5) (hm : 0 ≤ m ∧ m ≤ 5000) (kQ : ∀ h' e c' z', (e, c', z') = RDF T 1600 s m z 0 → Fr [0, 1, 78] h h' → (∀ k, k ≠ 8 → h' 0 k = h 0 k) → h' 0 8 = c' → (∀ k, k ≠ 15 → h' 1 k = h 1 k) → h' 1 15 = z' → (∀ k, k ≠ 3 → h' 78 k = h 78 k) → Post (some (vI e)) (mk h' τ)) : Cj γ mX8_rideOn d 0 0 [vA 0, vA 1, vI s, vI m] (mk h τ) Post := by
  refine c_of (by decide) (Nat.le_of_ble_eq_true rfl) ?_
  show Aj γ mX8_rideOn d 0 0 Post 0 [(0, vA 0), (1, vA 1), (2, vI s), (3, vI m)] [] (mk h τ)
  refine a_iload_n (j := 2) dX8_rideOn_0 rfl rfl ?_
  refine a_istore (lv' := [(4, vI s), (0, vA 0), (1, vA 1), (2, vI s), (3, vI m)]) dX8_rideOn_1 (by decide) rfl ?_
  refine a_iload_n (j := 4) dX8_rideOn_3 rfl rfl ?_
  refine a_istore (lv' := [(5, vI m), (4, vI s), (0, vA 0), (1, vA 1), (2, vI s), (3, vI m)]) dX8_rideOn_4 (by decide) rfl ?_
  refine a_aload_n (j := 2) dX8_rideOn_6 rfl rfl (Nat.le_of_ble_eq_true rfl) ?_
  refine a_iconst dX8_rideOn_7 ⟨by decide, by decide⟩ ?_
  refine b_put (a := 0) (v := vI 0) dX8_rideOn_8 pwX8_351 (fun h => nomatch h) (by decide) rfl (by decide) rfl rfl (fit_int _) ?_
  show Aj γ mX8_rideOn d 0 0 Post 11 [(5, vI m), (4, vI s), (0, vA 0), (1, vA 1), (2, vI s), (3, vI m)] [] (mk (up2 h 0 8 0) τ)
  refine a_iconst dX8_rideOn_11 ⟨by decide, by decide⟩ ?_
  refine a_istore (lv' := [(6, vI 0), (5, vI m), (4, vI s), (0, vA 0), (1, vA 1), (2, vI s), (3, vI m)]) dX8_rideOn_12 (by decide) rfl ?_
  exact a_lv (lv' := [(6, vI ((0 : Nat) : Int)), (4, vI s), (5, vI m), (0, vA 0), (1, vA 1), (2, vI s), (3, vI m)]) (by intro q hq; simp only [List.mem_cons, List.not_mem_nil, or_false] at hq ⊢; rcases hq with rfl | rfl | rfl | rfl | rfl | rfl | rfl <;> simp) (l_ride1 (h := h) (T := T) (R := RDF T 1600 s m z 0) hd hT hTT hk0 hCH hg9 kQ 1600 0 s m z 0 (up2 h 0 8 0) (by omega) hs hm (by omega) (by omega) (by omega) (Fr_u (by decide) Fr_r) (fun k hk => up2_ne (by omega)) up2_at (fun k hk => up2_ne (by omega)) ((up2_ne (by omega)).trans hz) (fun k hk => up2_ne (by omega)) rfl)
set_option maxHeartbeats 8000000 in
theorem l_ride32 {γ : GT} {d : Nat} {T : Nat → Nat → Int} {s0 m0 : Int} {R : Int × Int × Int} {h : Nat → Nat → Int} {τ : List AC} {Post : Option AV → List AC → Prop} (hd : 5 ≤ d) (hT : tOK T) (hTT : TT h T) (hk0 : h 78 0 = 0) (hCH : CHp h 78 0 T (plT T 0)) (hg9 : h 32 9 = T 0 0) (kQ : ∀ h' e c' z', (e, c', z') = R → Fr [0, 32, 78] h h' → (∀ k, k ≠ 8 → h' 0 k = h 0 k) → h' 0 8 = c' → (∀ k, k ≠ 15 → h' 32 k = h 32 k) → h' 32 15 = z' → (∀ k, k ≠ 3 → h' 78 k = h 78 k) → Post (some (vI e)) (mk h' τ)) :
    ∀ (f i : Nat) (s m z c : Int) (h1 : Nat → Nat → Int), i + f = 1600 → 0 ≤ s ∧ s ≤ 5 → 0 ≤ m ∧ m ≤ 5000 → 1600 ≤ m + f → 0 ≤ c → c ≤ i → Fr [0, 32, 78] h h1 → (∀ k, k ≠ 8 → h1 0 k = h 0 k) → h1 0 8 = c → (∀ k, k ≠ 15 → h1 32 k = h 32 k) → h1 32 15 = z → (∀ k, k ≠ 3 → h1 78 k = h 78 k) → R = RDF T f s m z c → Aj γ mX8_rideOn d 0 0 Post 14 [(6, vI ((i : Nat) : Int)), (4, vI s), (5, vI m), (0, vA 0), (1, vA 32), (2, vI s0), (3, vI m0)] [] (mk h1 τ) := by
  intro f
  induction f with
  | zero =>
    intro i s m z c h1 hif hs hm hmf hc0 hci hF i0 i8 iw iz ib hR
    have h2_ := hT.2.2.1
    have h3_ := hT.2.2.2.1
    have hdr := dr_rng z
    have hTK := TK_rng hT s m
    have hlate := TK_late hT (s := s) (m := m) (by omega)
    refine a_iload (j := 0) dX8_rideOn_14 rfl ?_
    refine a_ldcw (z := 100000) dX8_rideOn_16 kwX8_354 ⟨by decide, by decide, by decide⟩ ?_
    refine a_icmp_ge (tgt := 120) dX8_rideOn_19 (by decide) (fun c19_1 => absurd c19_1 (by omega)) (fun c19_1 => ?_)
    refine a_iload (j := 1) dX8_rideOn_22 rfl ?_
    refine a_aload_n (j := 4) dX8_rideOn_24 rfl rfl (Nat.le_of_ble_eq_true rfl) ?_
    refine b_get (a := 32) (z := T 0 0) (t := 0) dX8_rideOn_25 fwX8_198 (by decide) rfl (by decide) rfl rfl ((iw 9 (by decide)).trans hg9) ?_
    refine a_icmp_eq (tgt := 120) dX8_rideOn_28 (by decide) (fun c28_2 => ?_) (fun c28_2 => ?_)
    · refine a_iload (j := 2) dX8_rideOn_120 rfl ?_
      exact a_iret dX8_rideOn_122 rfl (kQ h1 m c z (by rw [hR, RDF_0 (by rw [show s = T 0 0 by omega, TK_goal]; omega), if_pos (by omega)]) hF i0 i8 iw iz ib)
    · refine a_aload_n (j := 3) dX8_rideOn_31 rfl rfl (Nat.le_of_ble_eq_true rfl) ?_
      refine b_getp (a := 0) (p := 78) dX8_rideOn_32 fwX8_33 (by decide) rfl (by decide) rfl rfl ?_
      refine a_aload_n (j := 3) dX8_rideOn_35 rfl rfl (Nat.le_of_ble_eq_true rfl) ?_
      refine b_getp (a := 0) (p := 63) dX8_rideOn_36 fwX8_24 (by decide) rfl (by decide) rfl rfl ?_
      refine a_iload (j := 1) dX8_rideOn_39 rfl ?_
      refine a_iload (j := 2) dX8_rideOn_41 rfl ?_
      refine b_callV (d' := d - 1) (mc' := 0) (ms' := 0) (mc1 := 0) (ms1 := 0) (st := []) (b := 78) [vA 63, vI s, vI m] dX8_rideOn_43 mwX0_bestTrain lkX8_215 (by decide) rfl rc_X0 rfl (Nat.le_of_ble_eq_true rfl) (by omega) rfl rfl (c_X0_bestTrain_78 (κ := 0) (T := T) (s := s) (m := m) (P := plT T 0) (by omega) ((ib 0 (by decide)).trans hk0) rfl hT (TT_fr (by decide) hF hTT) (by omega) (by omega) (CHp_fr (hF 79 (by decide)) hCH) (fun _ => plT_mono (by omega)) (fun h8 hF8 j8 _ => ?_))
      show Aj γ mX8_rideOn d 0 0 Post 46 [(6, vI ((i : Nat) : Int)), (4, vI s), (5, vI m), (0, vA 0), (1, vA 32), (2, vI s0), (3, vI m0)] [vI (hsF (TK T s m))] (mk h8 τ)
      refine a_istore (lv' := [(7, vI (hsF (TK T s m))), (6, vI ((i : Nat) : Int)), (4, vI s), (5, vI m), (0, vA 0), (1, vA 32), (2, vI s0), (3, vI m0)]) dX8_rideOn_46 (by decide) rfl ?_
      refine a_iload (j := 0) dX8_rideOn_48 rfl ?_
      refine a_ldc (z := (-1000000005)) dX8_rideOn_50 kwX8_159 ⟨by decide, by decide, by decide⟩ ?_
      refine a_icmp_ne (tgt := 59) dX8_rideOn_52 (by decide) (fun c52_3 => ?_) (fun c52_3 => ?_)
      · exfalso
        have := hsF_c (TK T s m)
        omega
      · have htn : TK T s m < 0 := by have := hsF_c (TK T s m); omega
        refine a_sipush dX8_rideOn_55 ⟨by decide, by decide, by decide⟩ ?_
        exact a_iret dX8_rideOn_58 rfl (kQ h8 2880 c z (by rw [hR, RDF_0 htn, if_neg (by omega)]) (Fr_t hF (Fr_m (by decide) hF8)) (fun k hk => (Fr_v hF8 (by decide)).trans (i0 k hk)) ((Fr_v hF8 (by decide)).trans i8) (fun k hk => (Fr_v hF8 (by decide)).trans (iw k hk)) ((Fr_v hF8 (by decide)).trans iz) (fun k hk => (j8 k hk).trans (ib k hk)))
  | succ f ih =>
    intro i s m z c h1 hif hs hm hmf hc0 hci hF i0 i8 iw iz ib hR
    have h2_ := hT.2.2.1
    have h3_ := hT.2.2.2.1
    have hdr := dr_rng z
    have hTK := TK_rng hT s m
    refine a_iload (j := 0) dX8_rideOn_14 rfl ?_
    refine a_ldcw (z := 100000) dX8_rideOn_16 kwX8_354 ⟨by decide, by decide, by decide⟩ ?_
    refine a_icmp_ge (tgt := 120) dX8_rideOn_19 (by decide) (fun c19_1 => absurd c19_1 (by omega)) (fun c19_1 => ?_)
    refine a_iload (j := 1) dX8_rideOn_22 rfl ?_
    refine a_aload_n (j := 4) dX8_rideOn_24 rfl rfl (Nat.le_of_ble_eq_true rfl) ?_
    refine b_get (a := 32) (z := T 0 0) (t := 0) dX8_rideOn_25 fwX8_198 (by decide) rfl (by decide) rfl rfl ((iw 9 (by decide)).trans hg9) ?_
    refine a_icmp_eq (tgt := 120) dX8_rideOn_28 (by decide) (fun c28_2 => ?_) (fun c28_2 => ?_)
    · refine a_iload (j := 2) dX8_rideOn_120 rfl ?_
      exact a_iret dX8_rideOn_122 rfl (kQ h1 m c z (by rw [hR, RDF_0 (by rw [show s = T 0 0 by omega, TK_goal]; omega), if_pos (by omega)]) hF i0 i8 iw iz ib)
    · refine a_aload_n (j := 3) dX8_rideOn_31 rfl rfl (Nat.le_of_ble_eq_true rfl) ?_
      refine b_getp (a := 0) (p := 78) dX8_rideOn_32 fwX8_33 (by decide) rfl (by decide) rfl rfl ?_
      refine a_aload_n (j := 3) dX8_rideOn_35 rfl rfl (Nat.le_of_ble_eq_true rfl) ?_
      refine b_getp (a := 0) (p := 63) dX8_rideOn_36 fwX8_24 (by decide) rfl (by decide) rfl rfl ?_
      refine a_iload (j := 1) dX8_rideOn_39 rfl ?_
      refine a_iload (j := 2) dX8_rideOn_41 rfl ?_
      refine b_callV (d' := d - 1) (mc' := 0) (ms' := 0) (mc1 := 0) (ms1 := 0) (st := []) (b := 78) [vA 63, vI s, vI m] dX8_rideOn_43 mwX0_bestTrain lkX8_215 (by decide) rfl rc_X0 rfl (Nat.le_of_ble_eq_true rfl) (by omega) rfl rfl (c_X0_bestTrain_78 (κ := 0) (T := T) (s := s) (m := m) (P := plT T 0) (by omega) ((ib 0 (by decide)).trans hk0) rfl hT (TT_fr (by decide) hF hTT) (by omega) (by omega) (CHp_fr (hF 79 (by decide)) hCH) (fun _ => plT_mono (by omega)) (fun h8 hF8 j8 _ => ?_))
      show Aj γ mX8_rideOn d 0 0 Post 46 [(6, vI ((i : Nat) : Int)), (4, vI s), (5, vI m), (0, vA 0), (1, vA 32), (2, vI s0), (3, vI m0)] [vI (hsF (TK T s m))] (mk h8 τ)
      refine a_istore (lv' := [(7, vI (hsF (TK T s m))), (6, vI ((i : Nat) : Int)), (4, vI s), (5, vI m), (0, vA 0), (1, vA 32), (2, vI s0), (3, vI m0)]) dX8_rideOn_46 (by decide) rfl ?_
      refine a_iload (j := 0) dX8_rideOn_48 rfl ?_
      refine a_ldc (z := (-1000000005)) dX8_rideOn_50 kwX8_159 ⟨by decide, by decide, by decide⟩ ?_
      refine a_icmp_ne (tgt := 59) dX8_rideOn_52 (by decide) (fun c52_3 => ?_) (fun c52_3 => ?_)
      · have hsf := hsF_c (TK T s m)
        obtain ⟨tk, htk⟩ : ∃ tk : Nat, TK T s m = (tk : Int) := ⟨Int.toNat (TK T s m), by omega⟩
        rw [show hsF (TK T s m) = ((tk : Nat) : Int) by omega]
        have hml : m ≤ 1589 := by rcases Int.lt_or_le m 1590 with q | q; omega; (have := TK_late hT (s := s) q; omega)
        obtain ⟨sp, hsp⟩ : ∃ sp : Nat, sp = stF T tk (drF z % 100) := ⟨_, rfl⟩
        have hsp4 := stF_lt T tk (drF z % 100)
        rw [← hsp] at hsp4
        have qa := hT.2.2.2.2.2 tk
        have qa3 := qa.2.1
        have qa4 := qa.2.2.1
        have qa5 := qa.2.2.2.1
        have qa6 := qa.2.2.2.2.1
        have qa7 := qa.2.2.2.2.2.1
        have qa8 := (qa.2.2.2.2.2.2.2 (by omega))
        have qaw := hT.2.2.2.2.1 (Int.toNat (T 3 tk))
        have qa9sp := qa.2.2.2.2.2.2.1 sp (by omega)
        have har := arT_rng hT (t := tk) (s := sp) (m := m) (by omega)
        refine a_aload_n (j := 4) dX8_rideOn_59 rfl rfl (Nat.le_of_ble_eq_true rfl) ?_
        refine b_getp (a := 0) (p := 63) dX8_rideOn_60 fwX8_24 (by decide) rfl (by decide) rfl rfl ?_
        refine a_iload (j := 0) dX8_rideOn_63 rfl ?_
        refine a_aload_n (j := 5) dX8_rideOn_65 rfl rfl (Nat.le_of_ble_eq_true rfl) ?_
        refine b_callV (d' := d - 1) (mc' := 0) (ms' := 0) (mc1 := 0) (ms1 := 0) (st := [vI ((tk : Nat) : Int), vA 63]) (b := 32) [] dX8_rideOn_66 mwX7_draw lkX8_355 (by decide) rfl rc_X7 rfl (Nat.le_of_ble_eq_true rfl) (by omega) rfl rfl (c_X7_draw (v1 := z) (by omega) (Or.inr rfl) ((Fr_v hF8 (by decide)).trans iz)  ?_)
        show Aj γ mX8_rideOn d 0 0 Post 69 [(7, vI ((tk : Nat) : Int)), (6, vI ((i : Nat) : Int)), (4, vI s), (5, vI m), (0, vA 0), (1, vA 32), (2, vI s0), (3, vI m0)] [vI (ushr32 (w32 ((w32 (z * 1103515245)) + 12345)) 8), vI ((tk : Nat) : Int), vA 63] (mk (up2 h8 32 15 (w32 ((w32 (z * 1103515245)) + 12345))) τ)
        show Aj γ mX8_rideOn d 0 0 Post 69 [(7, vI ((tk : Nat) : Int)), (6, vI ((i : Nat) : Int)), (4, vI s), (5, vI m), (0, vA 0), (1, vA 32), (2, vI s0), (3, vI m0)] [vI (drF z), vI ((tk : Nat) : Int), vA 63] (mk (up2 h8 32 15 (zN z)) τ)
        refine a_bipush dX8_rideOn_69 ⟨by decide, by decide, by decide⟩ ?_
        refine a_irem (z := ((drF z) % 100)) dX8_rideOn_71 (by omega) (w_remN (by omega) (by omega) (by omega)) ?_
        refine b_callV (d' := d - 1) (mc' := 0) (ms' := 0) (mc1 := 0) (ms1 := 0) (st := []) (b := 63) [vI ((tk : Nat) : Int), vI ((drF z) % 100)] dX8_rideOn_72 mwX5_stepBy lkX8_358 (by decide) rfl rc_X5 rfl (Nat.le_of_ble_eq_true rfl) (by omega) rfl rfl (c_X5_stepByT (T := T) (t := tk) (r := ((drF z) % 100)) (by omega) hT (TT_fr (L := [32, 0, 78]) (by decide) (Fr_t (Fr_m (by decide) hF) (Fr_t (Fr_m (by decide) hF8) (Fr_u (by decide) Fr_r))) hTT) (by omega) ?_)
        rw [← hsp]
        show Aj γ mX8_rideOn d 0 0 Post 75 [(7, vI ((tk : Nat) : Int)), (6, vI ((i : Nat) : Int)), (4, vI s), (5, vI m), (0, vA 0), (1, vA 32), (2, vI s0), (3, vI m0)] [vI ((sp : Nat) : Int)] (mk (up2 h8 32 15 (zN z)) τ)
        refine a_istore (lv' := [(8, vI ((sp : Nat) : Int)), (7, vI ((tk : Nat) : Int)), (6, vI ((i : Nat) : Int)), (4, vI s), (5, vI m), (0, vA 0), (1, vA 32), (2, vI s0), (3, vI m0)]) dX8_rideOn_75 (by decide) rfl ?_
        refine a_aload_n (j := 5) dX8_rideOn_77 rfl rfl (Nat.le_of_ble_eq_true rfl) ?_
        refine b_getp (a := 0) (p := 63) dX8_rideOn_78 fwX8_24 (by decide) rfl (by decide) rfl rfl ?_
        refine a_iload (j := 1) dX8_rideOn_81 rfl ?_
        refine a_iload (j := 0) dX8_rideOn_83 rfl ?_
        refine a_iload (j := 4) dX8_rideOn_85 rfl ?_
        refine b_callV (d' := d - 1) (mc' := 0) (ms' := 0) (mc1 := 0) (ms1 := 0) (st := []) (b := 63) [vI ((tk : Nat) : Int), vI ((sp : Nat) : Int), vI m] dX8_rideOn_87 mwX5_arrival lkX8_361 (by decide) rfl rc_X5 rfl (Nat.le_of_ble_eq_true rfl) (by omega) rfl rfl (c_X5_arrival (v1 := (T 9 (4 * tk + sp))) (v2 := (T 4 tk)) (v3 := (T 3 tk)) (v4 := (T 1 (Int.toNat (T 3 tk)))) (v5 := (T 0 0)) (by omega)  ((up2_ne (by omega)).trans ((Fr_v hF8 (by decide)).trans ((Fr_v hF (by decide)).trans ((congrArg (h 72) (show (Int.toNat ((((tk : Nat) : Int) * 4) + ((sp : Nat) : Int))) = (4 * tk + sp) by omega)).trans ((hTT.2.2.1 tk (by omega)).2.2.2.2.2.2 sp (by omega)).2)))) ((up2_ne (by omega)).trans ((Fr_v hF8 (by decide)).trans ((Fr_v hF (by decide)).trans ((congrArg (h 67) (show (Int.toNat ((tk : Nat) : Int)) = tk by omega)).trans (hTT.2.2.1 tk (by omega)).2.2.1)))) ((up2_ne (by omega)).trans ((Fr_v hF8 (by decide)).trans ((Fr_v hF (by decide)).trans ((congrArg (h 66) (show (Int.toNat ((tk : Nat) : Int)) = tk by omega)).trans (hTT.2.2.1 tk (by omega)).2.1)))) ((up2_ne (by omega)).trans ((Fr_v hF8 (by decide)).trans ((Fr_v hF (by decide)).trans (hTT.2.1 _ (by omega))))) ((up2_ne (by omega)).trans ((Fr_v hF8 (by decide)).trans ((Fr_v hF (by decide)).trans hTT.1.1))) (show 0 ≤ ((tk : Nat) : Int) ∧ ((tk : Nat) : Int) ≤ 11 by omega) (show 0 ≤ ((sp : Nat) : Int) ∧ ((sp : Nat) : Int) ≤ 3 by omega) (show 0 ≤ (T 9 (4 * tk + sp)) ∧ (T 9 (4 * tk + sp)) ≤ 3000 by omega) (show 1 ≤ (T 4 tk) ∧ (T 4 tk) ≤ 600 by omega) (show 0 ≤ (T 3 tk) ∧ (T 3 tk) ≤ 5 by omega) (show 0 ≤ (T 1 (Int.toNat (T 3 tk))) ∧ (T 1 (Int.toNat (T 3 tk))) ≤ 99 by omega) (show 0 ≤ m ∧ m ≤ 5000 by omega) ?_)
        show Aj γ mX8_rideOn d 0 0 Post 90 [(8, vI ((sp : Nat) : Int)), (7, vI ((tk : Nat) : Int)), (6, vI ((i : Nat) : Int)), (4, vI s), (5, vI m), (0, vA 0), (1, vA 32), (2, vI s0), (3, vI m0)] [vI (arrF (T 9 (4 * tk + sp)) m (T 4 tk) (T 3 tk) (T 0 0) (T 1 (Int.toNat (T 3 tk))))] (mk (up2 h8 32 15 (zN z)) τ)
        show Aj γ mX8_rideOn d 0 0 Post 90 [(8, vI ((sp : Nat) : Int)), (7, vI ((tk : Nat) : Int)), (6, vI ((i : Nat) : Int)), (4, vI s), (5, vI m), (0, vA 0), (1, vA 32), (2, vI s0), (3, vI m0)] [vI (arT T tk sp m)] (mk (up2 h8 32 15 (zN z)) τ)
        refine a_istore (lv' := [(5, vI (arT T tk sp m)), (8, vI ((sp : Nat) : Int)), (7, vI ((tk : Nat) : Int)), (6, vI ((i : Nat) : Int)), (4, vI s), (0, vA 0), (1, vA 32), (2, vI s0), (3, vI m0)]) dX8_rideOn_90 (by decide) rfl ?_
        refine a_aload_n (j := 5) dX8_rideOn_92 rfl rfl (Nat.le_of_ble_eq_true rfl) ?_
        refine b_getp (a := 0) (p := 63) dX8_rideOn_93 fwX8_24 (by decide) rfl (by decide) rfl rfl ?_
        refine b_getp (a := 63) (p := 66) dX8_rideOn_96 fwX8_364 (by decide) rfl (by decide) rfl rfl ?_
        refine a_iload (j := 2) dX8_rideOn_99 rfl ?_
        refine b_iaload (a := 66) (z := T 3 tk) tk dX8_rideOn_101 (by decide) rfl rfl (by omega) (sp_nil rfl _) ((up2_ne (by omega)).trans ((Fr_v hF8 (by decide)).trans ((Fr_v hF (by decide)).trans (hTT.2.2.1 tk (by omega)).2.1))) (fun r101_4 => ?_)
        refine a_istore (lv' := [(4, vI (T 3 tk)), (5, vI (arT T tk sp m)), (8, vI ((sp : Nat) : Int)), (7, vI ((tk : Nat) : Int)), (6, vI ((i : Nat) : Int)), (0, vA 0), (1, vA 32), (2, vI s0), (3, vI m0)]) dX8_rideOn_102 (by decide) rfl ?_
        refine a_aload_n (j := 5) dX8_rideOn_104 rfl rfl (Nat.le_of_ble_eq_true rfl) ?_
        refine a_dup dX8_rideOn_105 (fun h => nomatch h) ?_
        refine b_get (a := 0) (z := c) (t := 0) dX8_rideOn_106 fwX8_351 (by decide) rfl (by decide) rfl rfl ((up2_ne (by omega)).trans ((Fr_v hF8 (by decide)).trans i8)) ?_
        refine a_iconst dX8_rideOn_109 ⟨by decide, by decide⟩ ?_
        refine a_iadd (z := (c + 1)) dX8_rideOn_110 (w_ok (by omega) (by omega)) ?_
        refine b_put (a := 0) (v := vI (c + 1)) dX8_rideOn_111 pwX8_351 (fun h => nomatch h) (by decide) rfl (by decide) rfl rfl (fit_int _) ?_
        show Aj γ mX8_rideOn d 0 0 Post 114 [(4, vI (T 3 tk)), (5, vI (arT T tk sp m)), (8, vI ((sp : Nat) : Int)), (7, vI ((tk : Nat) : Int)), (6, vI ((i : Nat) : Int)), (0, vA 0), (1, vA 32), (2, vI s0), (3, vI m0)] [] (mk (up2 (up2 h8 32 15 (zN z)) 0 8 (c + 1)) τ)
        refine a_iinc (j := 4) (z' := ((i + 1 : Nat) : Int)) (lv' := [(6, vI ((i + 1 : Nat) : Int)), (4, vI (T 3 tk)), (5, vI (arT T tk sp m)), (8, vI ((sp : Nat) : Int)), (7, vI ((tk : Nat) : Int)), (0, vA 0), (1, vA 32), (2, vI s0), (3, vI m0)]) dX8_rideOn_114 rfl (w_okN (by omega) (by omega) (by omega)) (by decide) rfl ?_
        refine a_goto (tgt := 14) dX8_rideOn_117 (by decide) ?_
        refine a_lv (lv' := [(6, vI (((i + 1) : Nat) : Int)), (4, vI (T 3 tk)), (5, vI (arT T tk sp m)), (0, vA 0), (1, vA 32), (2, vI s0), (3, vI m0)]) (by intro q hq; simp only [List.mem_cons, List.not_mem_nil, or_false] at hq ⊢; rcases hq with rfl | rfl | rfl | rfl | rfl | rfl | rfl <;> simp) (ih (i + 1) (T 3 tk) (arT T tk sp m) (zN z) (c + 1) (up2 (up2 h8 32 15 (zN z)) 0 8 (c + 1)) (by omega) (by omega) (by omega) (by omega) (by omega) (by omega) (Fr_u (by decide) (Fr_u (by decide) (Fr_t (Fr_m (by decide) hF) (Fr_m (by decide) hF8)))) (fun k hk => ((up2_ne (by omega)).trans ((up2_ne (by omega)).trans ((Fr_v hF8 (by decide)).trans rfl))).trans (i0 k hk)) up2_at (fun k hk => ((up2_ne (by omega)).trans ((up2_ne (by omega)).trans ((Fr_v hF8 (by decide)).trans rfl))).trans (iw k hk)) ((up2_ne (by omega)).trans up2_at) (fun k hk => ((up2_ne (by omega)).trans ((up2_ne (by omega)).trans (j8 k hk))).trans (ib k hk)) (hR.trans (by rw [RDF_s htk, ← hsp])))
      · have htn : TK T s m < 0 := by have := hsF_c (TK T s m); omega
        refine a_sipush dX8_rideOn_55 ⟨by decide, by decide, by decide⟩ ?_
        exact a_iret dX8_rideOn_58 rfl (kQ h8 2880 c z (by rw [hR, RDF_0 htn, if_neg (by omega)]) (Fr_t hF (Fr_m (by decide) hF8)) (fun k hk => (Fr_v hF8 (by decide)).trans (i0 k hk)) ((Fr_v hF8 (by decide)).trans i8) (fun k hk => (Fr_v hF8 (by decide)).trans (iw k hk)) ((Fr_v hF8 (by decide)).trans iz) (fun k hk => (j8 k hk).trans (ib k hk)))
theorem c_X8_rideOn_32 {γ : GT} {d : Nat} {T : Nat → Nat → Int} {s m z : Int} {h : Nat → Nat → Int} {τ : List AC} {Post : Option AV → List AC → Prop} (hd : 5 ≤ d) (hT : tOK T) (hTT : TT h T) (hk0 : h 78 0 = 0) (hCH : CHp h 78 0 T (plT T 0)) (hg9 : h 32 9 = T 0 0) (hz : h 32 15 = z) (hs : 0 ≤ s ∧ s ≤ 5) (hm : 0 ≤ m ∧ m ≤ 5000) (kQ : ∀ h' e c' z', (e, c', z') = RDF T 1600 s m z 0 → Fr [0, 32, 78] h h' → (∀ k, k ≠ 8 → h' 0 k = h 0 k) → h' 0 8 = c' → (∀ k, k ≠ 15 → h' 32 k = h 32 k) → h' 32 15 = z' → (∀ k, k ≠ 3 → h' 78 k = h 78 k) → Post (some (vI e)) (mk h' τ)) : Cj γ mX8_rideOn d 0 0 [vA 0, vA 32, vI s, vI m] (mk h τ) Post := by
  refine c_of (by decide) (Nat.le_of_ble_eq_true rfl) ?_
  show Aj γ mX8_rideOn d 0 0 Post 0 [(0, vA 0), (1, vA 32), (2, vI s), (3, vI m)] [] (mk h τ)
  refine a_iload_n (j := 2) dX8_rideOn_0 rfl rfl ?_
  refine a_istore (lv' := [(4, vI s), (0, vA 0), (1, vA 32), (2, vI s), (3, vI m)]) dX8_rideOn_1 (by decide) rfl ?_
  refine a_iload_n (j := 4) dX8_rideOn_3 rfl rfl ?_
  refine a_istore (lv' := [(5, vI m), (4, vI s), (0, vA 0), (1, vA 32), (2, vI s), (3, vI m)]) dX8_rideOn_4 (by decide) rfl ?_
  refine a_aload_n (j := 2) dX8_rideOn_6 rfl rfl (Nat.le_of_ble_eq_true rfl) ?_
  refine a_iconst dX8_rideOn_7 ⟨by decide, by decide⟩ ?_
  refine b_put (a := 0) (v := vI 0) dX8_rideOn_8 pwX8_351 (fun h => nomatch h) (by decide) rfl (by decide) rfl rfl (fit_int _) ?_
  show Aj γ mX8_rideOn d 0 0 Post 11 [(5, vI m), (4, vI s), (0, vA 0), (1, vA 32), (2, vI s), (3, vI m)] [] (mk (up2 h 0 8 0) τ)
  refine a_iconst dX8_rideOn_11 ⟨by decide, by decide⟩ ?_
  refine a_istore (lv' := [(6, vI 0), (5, vI m), (4, vI s), (0, vA 0), (1, vA 32), (2, vI s), (3, vI m)]) dX8_rideOn_12 (by decide) rfl ?_
  exact a_lv (lv' := [(6, vI ((0 : Nat) : Int)), (4, vI s), (5, vI m), (0, vA 0), (1, vA 32), (2, vI s), (3, vI m)]) (by intro q hq; simp only [List.mem_cons, List.not_mem_nil, or_false] at hq ⊢; rcases hq with rfl | rfl | rfl | rfl | rfl | rfl | rfl <;> simp) (l_ride32 (h := h) (T := T) (R := RDF T 1600 s m z 0) hd hT hTT hk0 hCH hg9 kQ 1600 0 s m z 0 (up2 h 0 8 0) (by omega) hs hm (by omega) (by omega) (by omega) (Fr_u (by decide) Fr_r) (fun k hk => up2_ne (by omega)) up2_at (fun k hk => up2_ne (by omega)) ((up2_ne (by omega)).trans hz) (fun k hk => up2_ne (by omega)) rfl)
theorem RT_z {h h' T : Nat → Nat → Int} (hT : tOK T) (e : ∀ k, k ≠ 0 → h' 124 k = h 124 k) (e7 : h' 127 = h 127) (e8 : h' 128 = h 128) (e9 : h' 129 = h 129) (e0 : h' 130 = h 130) (hR : RT h T) : RT h' T := by
  obtain ⟨⟨a1, a2, a3, a4⟩, b⟩ := hR.1
  refine ⟨⟨⟨(e 2 (by omega)).trans a1, (e 3 (by omega)).trans a2, (e 5 (by omega)).trans a3, (e 4 (by omega)).trans a4⟩, fun t ht => ?_⟩, ?_⟩
  · obtain ⟨q1, q2, q3, q4, q5, q6⟩ := b t ht
    refine ⟨(e _ (by omega)).trans q1, (e _ (by omega)).trans q2, (e _ (by omega)).trans q3, ?_, ?_, fun s hs => (e _ (by omega)).trans (q6 s hs)⟩
    · rw [e _ (by omega), e _ (by omega)]; exact q4
    · rw [e _ (by omega)]; exact q5
  · unfold KN
    rw [e7, e8, e9, e0]
    exact hR.2
set_option maxHeartbeats 8000000 in
theorem c_X9_drawnStep {γ : GT} {d : Nat} {T : Nat → Nat → Int} {t : Nat} {z : Int} {h : Nat → Nat → Int} {τ : List AC} {Post : Option AV → List AC → Prop} (hd : 1 ≤ d) (hT : tOK T) (hRT : RT h T) (ht : (t : Int) < T 0 2) (hz : h 124 0 = z) (kQ : Post (some (vI ((stF T t (drF z % 100) : Nat) : Int))) (mk (up2 h 124 0 (zN z)) τ)) : Cj γ mX9_drawnStep d 0 0 [vA 123, vI ((t : Nat) : Int)] (mk h τ) Post := by
  have h2_ := hT.2.2.1
  have hdr := dr_rng z
  have q := hT.2.2.2.2.2 t
  have q0 := (q.2.2.2.2.2.2.1 0 (by omega)).1
  have q1 := (q.2.2.2.2.2.2.1 1 (by omega)).1
  have q2 := (q.2.2.2.2.2.2.1 2 (by omega)).1
  have q3 := (q.2.2.2.2.2.2.1 3 (by omega)).1
  have q4 := (q.2.2.2.2.2.2.2 ht).2.2
  rw [Nat.add_zero] at q0
  refine c_of (by decide) (Nat.le_of_ble_eq_true rfl) ?_
  show Aj γ mX9_drawnStep d 0 0 Post 0 [(0, vA 123), (1, vI ((t : Nat) : Int))] [] (mk h τ)
  refine a_aload_n (j := 0) dX9_drawnStep_0 rfl rfl (Nat.le_of_ble_eq_true rfl) ?_
  refine b_callV (d' := d - 1) (mc' := 0) (ms' := 0) (mc1 := 0) (ms1 := 0) (st := []) (b := 123) [] dX9_drawnStep_1 mwX9_draw lkX9_300 (by decide) rfl rc_X9 rfl (Nat.le_of_ble_eq_true rfl) (by omega) rfl rfl (c_X9_draw (v1 := z) (by omega)  hz  ?_)
  show Aj γ mX9_drawnStep d 0 0 Post 4 [(0, vA 123), (1, vI ((t : Nat) : Int))] [vI (ushr32 (w32 ((w32 (z * 1103515245)) + 12345)) 8)] (mk (up2 h 124 0 (w32 ((w32 (z * 1103515245)) + 12345))) τ)
  show Aj γ mX9_drawnStep d 0 0 Post 4 [(0, vA 123), (1, vI ((t : Nat) : Int))] [vI (drF z)] (mk (up2 h 124 0 (zN z)) τ)
  refine a_bipush dX9_drawnStep_4 ⟨by decide, by decide, by decide⟩ ?_
  refine a_irem (z := ((drF z) % 100)) dX9_drawnStep_6 (by omega) (w_remN (by omega) (by omega) (by omega)) ?_
  refine a_istore_n (lv' := [(2, vI ((drF z) % 100)), (0, vA 123), (1, vI ((t : Nat) : Int))]) dX9_drawnStep_7 rfl (by decide) rfl ?_
  refine a_iconst dX9_drawnStep_8 ⟨by decide, by decide⟩ ?_
  refine a_istore_n (lv' := [(3, vI 0), (2, vI ((drF z) % 100)), (0, vA 123), (1, vI ((t : Nat) : Int))]) dX9_drawnStep_9 rfl (by decide) rfl ?_
  refine a_aload_n (j := 2) dX9_drawnStep_10 rfl rfl (Nat.le_of_ble_eq_true rfl) ?_
  refine a_iload_n (j := 3) dX9_drawnStep_11 rfl rfl ?_
  refine a_bipush dX9_drawnStep_12 ⟨by decide, by decide, by decide⟩ ?_
  refine b_callV (d' := d - 1) (mc' := 0) (ms' := 0) (mc1 := 0) (ms1 := 0) (st := []) (b := 123) [vI ((t : Nat) : Int), vI 7] dX9_drawnStep_14 mwX9_of lkX9_107 (by decide) rfl rc_X9 rfl (Nat.le_of_ble_eq_true rfl) (by omega) rfl rfl (c_X9_of (v1 := (T 8 (4 * t))) (by omega)  ((up2_ne (by omega)).trans ((congrArg (h 124) (show (Int.toNat ((15 + (11 * ((t : Nat) : Int))) + 7)) = (22 + 11 * t) by omega)).trans ((congrArg (h 124) (show (22 + 11 * t) = 22 + 11 * t + 0 by omega)).trans ((hRT.1.2 t (by omega)).2.2.2.2.2 0 (by omega))))) (show 0 ≤ ((t : Nat) : Int) ∧ ((t : Nat) : Int) ≤ 11 ∧ 0 ≤ 7 ∧ 7 ≤ 10 by omega) ?_)
  show Aj γ mX9_drawnStep d 0 0 Post 17 [(3, vI 0), (2, vI ((drF z) % 100)), (0, vA 123), (1, vI ((t : Nat) : Int))] [vI (T 8 (4 * t))] (mk (up2 h 124 0 (zN z)) τ)
  refine a_istore (lv' := [(4, vI (T 8 (4 * t))), (3, vI 0), (2, vI ((drF z) % 100)), (0, vA 123), (1, vI ((t : Nat) : Int))]) dX9_drawnStep_17 (by decide) rfl ?_
  refine a_iload (j := 0) dX9_drawnStep_19 rfl ?_
  refine a_iload_n (j := 2) dX9_drawnStep_21 rfl rfl ?_
  refine a_icmp_gt (tgt := 45) dX9_drawnStep_22 (by decide) (fun c22_1 => ?_) (fun c22_1 => ?_)
  · refine a_iload_n (j := 1) dX9_drawnStep_45 rfl rfl ?_
    exact a_iret dX9_drawnStep_46 rfl (post_v kQ (by unfold stF; rw [if_pos (by omega)]; rfl))
  · refine a_iinc (j := 1) (z' := 1) (lv' := [(3, vI 1), (4, vI (T 8 (4 * t))), (2, vI ((drF z) % 100)), (0, vA 123), (1, vI ((t : Nat) : Int))]) dX9_drawnStep_25 rfl (w_ok (by omega) (by omega)) (by decide) rfl ?_
    refine a_iload (j := 1) dX9_drawnStep_28 rfl ?_
    refine a_aload_n (j := 3) dX9_drawnStep_30 rfl rfl (Nat.le_of_ble_eq_true rfl) ?_
    refine a_iload_n (j := 4) dX9_drawnStep_31 rfl rfl ?_
    refine a_bipush dX9_drawnStep_32 ⟨by decide, by decide, by decide⟩ ?_
    refine a_iload_n (j := 0) dX9_drawnStep_34 rfl rfl ?_
    refine a_iadd (z := 8) dX9_drawnStep_35 (w_ok (by omega) (by omega)) ?_
    refine b_callV (d' := d - 1) (mc' := 0) (ms' := 0) (mc1 := 0) (ms1 := 0) (st := [vI (T 8 (4 * t))]) (b := 123) [vI ((t : Nat) : Int), vI 8] dX9_drawnStep_36 mwX9_of lkX9_107 (by decide) rfl rc_X9 rfl (Nat.le_of_ble_eq_true rfl) (by omega) rfl rfl (c_X9_of (v1 := (T 8 (4 * t + 1))) (by omega)  ((up2_ne (by omega)).trans ((congrArg (h 124) (show (Int.toNat ((15 + (11 * ((t : Nat) : Int))) + 8)) = (23 + 11 * t) by omega)).trans ((congrArg (h 124) (show (23 + 11 * t) = 22 + 11 * t + 1 by omega)).trans ((hRT.1.2 t (by omega)).2.2.2.2.2 1 (by omega))))) (show 0 ≤ ((t : Nat) : Int) ∧ ((t : Nat) : Int) ≤ 11 ∧ 0 ≤ 8 ∧ 8 ≤ 10 by omega) ?_)
    show Aj γ mX9_drawnStep d 0 0 Post 39 [(3, vI 1), (4, vI (T 8 (4 * t))), (2, vI ((drF z) % 100)), (0, vA 123), (1, vI ((t : Nat) : Int))] [vI (T 8 (4 * t + 1)), vI (T 8 (4 * t))] (mk (up2 h 124 0 (zN z)) τ)
    refine a_iadd (z := ((T 8 (4 * t)) + (T 8 (4 * t + 1)))) dX9_drawnStep_39 (w_ok (by omega) (by omega)) ?_
    refine a_istore (lv' := [(4, vI ((T 8 (4 * t)) + (T 8 (4 * t + 1)))), (3, vI 1), (2, vI ((drF z) % 100)), (0, vA 123), (1, vI ((t : Nat) : Int))]) dX9_drawnStep_40 (by decide) rfl ?_
    refine a_goto (tgt := 19) dX9_drawnStep_42 (by decide) ?_
    refine a_iload (j := 0) dX9_drawnStep_19 rfl ?_
    refine a_iload_n (j := 2) dX9_drawnStep_21 rfl rfl ?_
    refine a_icmp_gt (tgt := 45) dX9_drawnStep_22 (by decide) (fun c22_2 => ?_) (fun c22_2 => ?_)
    · refine a_iload_n (j := 1) dX9_drawnStep_45 rfl rfl ?_
      exact a_iret dX9_drawnStep_46 rfl (post_v kQ (by unfold stF; rw [if_neg (by omega), if_pos (by omega)]; rfl))
    · refine a_iinc (j := 1) (z' := 2) (lv' := [(3, vI 2), (4, vI ((T 8 (4 * t)) + (T 8 (4 * t + 1)))), (2, vI ((drF z) % 100)), (0, vA 123), (1, vI ((t : Nat) : Int))]) dX9_drawnStep_25 rfl (w_ok (by omega) (by omega)) (by decide) rfl ?_
      refine a_iload (j := 1) dX9_drawnStep_28 rfl ?_
      refine a_aload_n (j := 3) dX9_drawnStep_30 rfl rfl (Nat.le_of_ble_eq_true rfl) ?_
      refine a_iload_n (j := 4) dX9_drawnStep_31 rfl rfl ?_
      refine a_bipush dX9_drawnStep_32 ⟨by decide, by decide, by decide⟩ ?_
      refine a_iload_n (j := 0) dX9_drawnStep_34 rfl rfl ?_
      refine a_iadd (z := 9) dX9_drawnStep_35 (w_ok (by omega) (by omega)) ?_
      refine b_callV (d' := d - 1) (mc' := 0) (ms' := 0) (mc1 := 0) (ms1 := 0) (st := [vI ((T 8 (4 * t)) + (T 8 (4 * t + 1)))]) (b := 123) [vI ((t : Nat) : Int), vI 9] dX9_drawnStep_36 mwX9_of lkX9_107 (by decide) rfl rc_X9 rfl (Nat.le_of_ble_eq_true rfl) (by omega) rfl rfl (c_X9_of (v1 := (T 8 (4 * t + 2))) (by omega)  ((up2_ne (by omega)).trans ((congrArg (h 124) (show (Int.toNat ((15 + (11 * ((t : Nat) : Int))) + 9)) = (24 + 11 * t) by omega)).trans ((congrArg (h 124) (show (24 + 11 * t) = 22 + 11 * t + 2 by omega)).trans ((hRT.1.2 t (by omega)).2.2.2.2.2 2 (by omega))))) (show 0 ≤ ((t : Nat) : Int) ∧ ((t : Nat) : Int) ≤ 11 ∧ 0 ≤ 9 ∧ 9 ≤ 10 by omega) ?_)
      show Aj γ mX9_drawnStep d 0 0 Post 39 [(3, vI 2), (4, vI ((T 8 (4 * t)) + (T 8 (4 * t + 1)))), (2, vI ((drF z) % 100)), (0, vA 123), (1, vI ((t : Nat) : Int))] [vI (T 8 (4 * t + 2)), vI ((T 8 (4 * t)) + (T 8 (4 * t + 1)))] (mk (up2 h 124 0 (zN z)) τ)
      refine a_iadd (z := (((T 8 (4 * t)) + (T 8 (4 * t + 1))) + (T 8 (4 * t + 2)))) dX9_drawnStep_39 (w_ok (by omega) (by omega)) ?_
      refine a_istore (lv' := [(4, vI (((T 8 (4 * t)) + (T 8 (4 * t + 1))) + (T 8 (4 * t + 2)))), (3, vI 2), (2, vI ((drF z) % 100)), (0, vA 123), (1, vI ((t : Nat) : Int))]) dX9_drawnStep_40 (by decide) rfl ?_
      refine a_goto (tgt := 19) dX9_drawnStep_42 (by decide) ?_
      refine a_iload (j := 0) dX9_drawnStep_19 rfl ?_
      refine a_iload_n (j := 2) dX9_drawnStep_21 rfl rfl ?_
      refine a_icmp_gt (tgt := 45) dX9_drawnStep_22 (by decide) (fun c22_3 => ?_) (fun c22_3 => ?_)
      · refine a_iload_n (j := 1) dX9_drawnStep_45 rfl rfl ?_
        exact a_iret dX9_drawnStep_46 rfl (post_v kQ (by unfold stF; rw [if_neg (by omega), if_neg (by omega), if_pos (by omega)]; rfl))
      · refine a_iinc (j := 1) (z' := 3) (lv' := [(3, vI 3), (4, vI (((T 8 (4 * t)) + (T 8 (4 * t + 1))) + (T 8 (4 * t + 2)))), (2, vI ((drF z) % 100)), (0, vA 123), (1, vI ((t : Nat) : Int))]) dX9_drawnStep_25 rfl (w_ok (by omega) (by omega)) (by decide) rfl ?_
        refine a_iload (j := 1) dX9_drawnStep_28 rfl ?_
        refine a_aload_n (j := 3) dX9_drawnStep_30 rfl rfl (Nat.le_of_ble_eq_true rfl) ?_
        refine a_iload_n (j := 4) dX9_drawnStep_31 rfl rfl ?_
        refine a_bipush dX9_drawnStep_32 ⟨by decide, by decide, by decide⟩ ?_
        refine a_iload_n (j := 0) dX9_drawnStep_34 rfl rfl ?_
        refine a_iadd (z := 10) dX9_drawnStep_35 (w_ok (by omega) (by omega)) ?_
        refine b_callV (d' := d - 1) (mc' := 0) (ms' := 0) (mc1 := 0) (ms1 := 0) (st := [vI (((T 8 (4 * t)) + (T 8 (4 * t + 1))) + (T 8 (4 * t + 2)))]) (b := 123) [vI ((t : Nat) : Int), vI 10] dX9_drawnStep_36 mwX9_of lkX9_107 (by decide) rfl rc_X9 rfl (Nat.le_of_ble_eq_true rfl) (by omega) rfl rfl (c_X9_of (v1 := (T 8 (4 * t + 3))) (by omega)  ((up2_ne (by omega)).trans ((congrArg (h 124) (show (Int.toNat ((15 + (11 * ((t : Nat) : Int))) + 10)) = (25 + 11 * t) by omega)).trans ((congrArg (h 124) (show (25 + 11 * t) = 22 + 11 * t + 3 by omega)).trans ((hRT.1.2 t (by omega)).2.2.2.2.2 3 (by omega))))) (show 0 ≤ ((t : Nat) : Int) ∧ ((t : Nat) : Int) ≤ 11 ∧ 0 ≤ 10 ∧ 10 ≤ 10 by omega) ?_)
        show Aj γ mX9_drawnStep d 0 0 Post 39 [(3, vI 3), (4, vI (((T 8 (4 * t)) + (T 8 (4 * t + 1))) + (T 8 (4 * t + 2)))), (2, vI ((drF z) % 100)), (0, vA 123), (1, vI ((t : Nat) : Int))] [vI (T 8 (4 * t + 3)), vI (((T 8 (4 * t)) + (T 8 (4 * t + 1))) + (T 8 (4 * t + 2)))] (mk (up2 h 124 0 (zN z)) τ)
        refine a_iadd (z := ((((T 8 (4 * t)) + (T 8 (4 * t + 1))) + (T 8 (4 * t + 2))) + (T 8 (4 * t + 3)))) dX9_drawnStep_39 (w_ok (by omega) (by omega)) ?_
        refine a_istore (lv' := [(4, vI ((((T 8 (4 * t)) + (T 8 (4 * t + 1))) + (T 8 (4 * t + 2))) + (T 8 (4 * t + 3)))), (3, vI 3), (2, vI ((drF z) % 100)), (0, vA 123), (1, vI ((t : Nat) : Int))]) dX9_drawnStep_40 (by decide) rfl ?_
        refine a_goto (tgt := 19) dX9_drawnStep_42 (by decide) ?_
        refine a_iload (j := 0) dX9_drawnStep_19 rfl ?_
        refine a_iload_n (j := 2) dX9_drawnStep_21 rfl rfl ?_
        refine a_icmp_gt (tgt := 45) dX9_drawnStep_22 (by decide) (fun c22_4 => ?_) (fun c22_4 => absurd c22_4 (by omega))
        refine a_iload_n (j := 1) dX9_drawnStep_45 rfl rfl ?_
        exact a_iret dX9_drawnStep_46 rfl (post_v kQ (by unfold stF; rw [if_neg (by omega), if_neg (by omega), if_neg (by omega)]; rfl))
