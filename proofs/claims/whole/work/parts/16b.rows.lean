theorem upR_v {h : Nat → Nat → Int} {a k : Nat} {f : Nat → Int} : upR h a f a k = f k := by unfold upR; rw [if_pos rfl]
theorem upR_r {h : Nat → Nat → Int} {a : Nat} {f : Nat → Int} : upR h a f a = f := by unfold upR; rw [if_pos rfl]
theorem upR_rn {h : Nat → Nat → Int} {a j : Nat} {f : Nat → Int} (hj : j ≠ a) : upR h a f j = h j := by unfold upR; rw [if_neg hj]
theorem upR_ne {h : Nat → Nat → Int} {a j i : Nat} {f : Nat → Int} (hj : j ≠ a) : upR h a f j i = h j i := by unfold upR; rw [if_neg hj]
theorem up2_ra {h : Nat → Nat → Int} {a k : Nat} {v : Int} {f : Nat → Int} (e : h a = f) : up2 h a k v a = up f k v := by unfold up2 upR; rw [if_pos rfl, e]
theorem up2_R {h : Nat → Nat → Int} {a k : Nat} {v : Int} {f : Nat → Int} : up2 (upR h a f) a k v = upR h a (up f k v) := by
  funext j
  unfold up2 upR
  by_cases hj : j = a
  · simp [hj]
  · simp [hj]
def fillR (v : Int) (n : Nat) (f : Nat → Int) : Nat → Int := fun k => if k < n then v else f k
theorem fillR_s (v : Int) (n : Nat) (f : Nat → Int) : up (fillR v n f) n v = fillR v (n + 1) f := by
  funext k
  unfold up fillR
  by_cases h1 : k = n
  · subst h1; simp
  · by_cases h2 : k < n
    · simp [h1, h2, Nat.lt_succ_of_lt h2]
    · have h3 : ¬ k < n + 1 := by omega
      simp [h1, h2, h3]
theorem fillR_0 (v : Int) (f : Nat → Int) : fillR v 0 f = f := by
  funext k
  unfold fillR
  simp
theorem upR_id {h : Nat → Nat → Int} {a : Nat} {f : Nat → Int} (e : h a = f) : upR h a f = h := by
  funext j
  unfold upR
  by_cases hj : j = a
  · rw [if_pos hj, hj, e]
  · rw [if_neg hj]
theorem b_copyR {γ : GT} {Y : MT} {d mc ms pc : Nat} {Post : Option AV → List AC → Prop} {lv : List (Nat × AV)} {st : List AV} {h : Nat → Nat → Int} {τ : List AC} {idx a b n0' n1 sp' dp n : Nat} {zs zd zn : Int} {f g : Nat → Int} (hd : decode Y.2.1 pc = .ok (.invokestatic idx, 3)) (hl : Cond.methodLink Y.1.cls idx arraycopyName ∈ lw_tbl) (ha : a < 154) (hb : b < 154) (hκ : kd a = (12, n0')) (hκ' : kd b = (12, n1)) (hs : ∀ k, sp a k = none) (hs' : ∀ k, sp b k = none) (h1 : zs = (sp' : Int)) (h2 : zd = (dp : Int)) (h3 : zn = (n : Int)) (h4 : sp' + n ≤ n0') (h5 : dp + n ≤ n1) (hst : stw st ≤ 8) (hd' : 1 ≤ d) (ea : h a = f) (eb : h b = g) (k : Aj γ Y d mc ms Post (pc + 3) lv st (mk (upR h b (cpy f g sp' dp n)) τ)) : Aj γ Y d mc ms Post pc lv (vI zn :: vI zd :: vA b :: vI zs :: vA a :: st) (mk h τ) :=
  b_copy hd hl ac_w ha hb hκ hκ' hs hs' h1 h2 h3 h4 h5 hst hd' (by rw [ea, eb]; exact k)
theorem l_fill {γ : GT} {d a n : Nat} {v : Int} {h : Nat → Nat → Int} {τ : List AC} {Post : Option AV → List AC → Prop} (ha : a < 154) (hκ : kd a = (12, n)) (hs : ∀ k, sp a k = none) (hn : n ≤ 100000) (k : Post none (mk (upR h a (fillR v n (h a))) τ)) :
    ∀ (f i : Nat), i ≤ n → n < i + f → Aj γ mJ7_fill_53178 d 0 0 Post 5 [(3, vI ((n : Nat) : Int)), (2, vI ((i : Nat) : Int)), (0, vA a), (1, vI v)] [] (mk (upR h a (fillR v i (h a))) τ) := by
  intro f
  induction f with
  | zero => intro i h1 h2; omega
  | succ f ih =>
    intro i h1 h2
    refine a_iload_n (j := 1) dJ7_fill_53178_5 rfl rfl ?_
    refine a_iload_n (j := 0) dJ7_fill_53178_6 rfl rfl ?_
    refine a_icmp_ge (tgt := 20) dJ7_fill_53178_7 (by decide) (fun c => ?_) (fun c => ?_)
    · have e : i = n := by omega
      subst e
      exact a_vret dJ7_fill_53178_20 rfl k
    · have hi : i < n := by omega
      refine a_aload_n (j := 2) dJ7_fill_53178_10 rfl rfl (Nat.le_of_ble_eq_true rfl) ?_
      refine a_iload_n (j := 1) dJ7_fill_53178_11 rfl rfl ?_
      refine a_iload_n (j := 3) dJ7_fill_53178_12 rfl rfl ?_
      refine b_iastore (a := a) i dJ7_fill_53178_13 ha hκ rfl hi (hs _) ?_
      rw [up2_R, fillR_s]
      refine a_iinc (j := 1) (z' := ((i + 1 : Nat) : Int)) (lv' := [(2, vI ((i + 1 : Nat) : Int)), (3, vI ((n : Nat) : Int)), (0, vA a), (1, vI v)]) dJ7_fill_53178_14 rfl (by rw [w_ok (by omega) (by omega)]; omega) (by decide) rfl ?_
      refine a_goto (tgt := 5) dJ7_fill_53178_17 (by decide) ?_
      refine a_lv (lv' := [(3, vI ((n : Nat) : Int)), (2, vI ((i + 1 : Nat) : Int)), (0, vA a), (1, vI v)]) ?_ (ih (i + 1) (by omega) (by omega))
      intro q hq
      simp only [List.mem_cons, List.not_mem_nil, or_false] at hq ⊢
      rcases hq with rfl | rfl | rfl | rfl <;> simp
theorem c_fill {γ : GT} {d a n : Nat} {v : Int} {h : Nat → Nat → Int} {τ : List AC} {f : Nat → Int} {Post : Option AV → List AC → Prop} (hd : 0 ≤ d) (ha : a < 154) (hκ : kd a = (12, n)) (hs : ∀ k, sp a k = none) (hn : n ≤ 100000) (e : h a = f) (k : Post none (mk (upR h a (fillR v n f)) τ)) : Cj γ mJ7_fill_53178 d 0 0 [vA a, vI v] (mk h τ) Post := by
  subst e
  refine c_of (by decide) (Nat.le_of_ble_eq_true rfl) ?_
  show Aj γ mJ7_fill_53178 d 0 0 Post 0 [(0, vA a), (1, vI v)] [] (mk h τ)
  refine a_iconst dJ7_fill_53178_0 ⟨by decide, by decide⟩ ?_
  refine a_istore_n (lv' := [(2, vI 0), (0, vA a), (1, vI v)]) dJ7_fill_53178_1 rfl (by decide) rfl ?_
  refine a_aload_n (j := 1) dJ7_fill_53178_2 rfl rfl (Nat.le_of_ble_eq_true rfl) ?_
  refine b_alen (a := a) dJ7_fill_53178_3 ha hκ ⟨by decide, by decide⟩ (by omega) ?_
  refine a_istore_n (lv' := [(3, vI ((n : Nat) : Int)), (2, vI 0), (0, vA a), (1, vI v)]) dJ7_fill_53178_4 rfl (by decide) rfl ?_
  have hq := l_fill (γ := γ) (d := d) (v := v) (τ := τ) ha hκ hs hn k (n + 1) 0 (Nat.zero_le _) (by omega)
  rw [fillR_0, upR_id rfl] at hq
  exact hq
