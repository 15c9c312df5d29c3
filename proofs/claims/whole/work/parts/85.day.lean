/-! days on both sides -/
section BD
variable {P : Nat → Nat → List Value → ee_W → Option (List Value × ee_W)} {d : Nat} {w : ee_W} {Z : ZX} {X : HX} {R : Option TX} {wob : Nat → Int32} {lost : Int32}
theorem xnote_WH (hX : WH X) {a b : Int32} (ha : bI a 0 4) (hb : bI b (-40) 1023) : WH (xnote X a b) := WH_note (f := X.1) (L := X.2) hX.1 hX.2.2.1 hX.2.1 hX.2.2.2 ha hb
theorem WH_up (hX : WH X) {f : Nat → Int32} (hf : wfS f) (h0 : f 0 = X.1 0) : WH (f, X.2) := ⟨hf, hX.2.1, by show (f 0).toInt ≤ 9999; rw [h0]; exact hX.2.2.1, hX.2.2.2⟩
theorem WH_s1 (hX : WH X) : WH (xs_1 wob lost R X) := by
  have a := WH_up hX (wf_s1 (wob := wob) (lost := lost) (R := R) hX.1) (xs_1_0 wob lost R X)
  rw [← xs_1_2 wob lost R X] at a
  exact a
theorem WH_m2 (hX : WH X) (p : Int32) : WH (xm_2 X p) := by
  have a : wfS (xm_1 X p).1 := wf_up (wf_up hX.1 3 (bI_hold (by decide) (by decide) (by decide))) 2 (bI_hold (by decide) (by decide) (by decide))
  have a0 : (xm_1 X p).1 0 = X.1 0 := by
    show up (up X.1 3 (xm_v X p)) 2 (hold32 (xm_n X p) 0 1023) 0 = X.1 0
    rw [up_at, if_neg (by omega), up_at, if_neg (by omega)]
  have u : WH (up (up (xm_1 X p).1 3 0) 8 (xmin (X.1 8 + 1) 9999), X.2) := WH_up hX (wf_up (wf_up a 3 (zb (by omega) (by omega))) 8 (xmin_b hX.1.2.2.2.2.2.2.2.2.1.1 hX.1.2.2.2.2.2.2.2.2.1.2 (by decide))) (by
    rw [up_at, if_neg (by omega), up_at, if_neg (by omega)]
    exact a0)
  have v : WH (xm_1 X p) := WH_up (f := (xm_1 X p).1) hX a a0
  have b4 : bI (4 : Int32) 0 4 := by unfold bI; decide
  have bp : bI (hold32 (xm_n X p) 0 1023) (-40) 1023 := bI_hold (by decide) (by decide) (by decide)
  unfold xm_2
  split
  · exact xnote_WH u b4 bp
  · exact v
theorem WH_m4 (hX : WH X) : WH (xm_4 X) := by
  have a : WH (xm_3 X) := WH_up hX (wf_m3 hX.1) xm_3_0
  unfold xm_4
  split
  · exact xnote_WH a (by unfold bI; decide) (bI_w hX.1.2.2.2.2.1 (by omega) (by omega))
  · exact a
theorem one_add {x : Int32} (h : x.toInt ≤ 20000) (h2 : 0 ≤ x.toInt) : (x + 1).toInt = x.toInt + 1 := by
  rw [i32_add] <;> rw [show (1 : Int32).toInt = 1 from rfl] <;> omega
theorem WH_m5 (hX : WH X) (h : (X.1 0).toInt < 9999) : WH (xm_5 X) := by
  refine ⟨wf_m5 hX.1 (by omega), hX.2.1, ?_, hX.2.2.2⟩
  show (up X.1 0 (X.1 0 + 1) 0).toInt ≤ 9999
  rw [up_at, if_pos rfl, one_add (by omega) hX.1.1.1]
  omega
theorem WH_sample (hX : WH X) (h : (X.1 0).toInt < 9999) : WH (xsample wob lost R X) := by
  unfold xsample xmove
  refine WH_m5 (WH_m4 (WH_m2 (WH_s1 hX) _)) ?_
  rw [xm_4_1, xm_3_0, xm_2_0, xs_1_0]
  exact h
def xst (Z : ZX) : ZX := ((xsample Z.1.2.2.1 (Z.1.2.2.2.1 0) (rul Z) Z.1.1, xkeep Z.1.2.1 Z.1.1, Z.1.2.2), Z.2)
def itz : Nat → ZX → ZX
  | 0, Z => Z
  | k + 1, Z => xst (itz k Z)
theorem WZ_xst (hW : WZ Z) (h : (Z.1.1.1 0).toInt < 9999) : WZ (xst Z) := WZ_step hW (WH_sample hW.1.1 h)
theorem xst_0 (Z : ZX) : (xst Z).1.1.1 0 = Z.1.1.1 0 + 1 := xsample_0
theorem itz_0 (Z : ZX) : ∀ k : Nat, ((Z.1.1.1 0).toInt + k ≤ 9999) → WZ Z → WZ (itz k Z) ∧ ((itz k Z).1.1.1 0).toInt = (Z.1.1.1 0).toInt + k := by
  intro k
  induction k with
  | zero =>
    intro _ h2
    refine ⟨h2, ?_⟩
    show (Z.1.1.1 0).toInt = (Z.1.1.1 0).toInt + ((0 : Nat) : Int)
    omega
  | succ k ih =>
    intro h h2
    obtain ⟨i1, i2⟩ := ih (by omega) h2
    have e : itz (k + 1) Z = xst (itz k Z) := rfl
    rw [e]
    generalize itz k Z = Z1 at *
    refine ⟨WZ_xst i1 (by omega), ?_⟩
    rw [xst_0, one_add (by omega) i1.1.1.1.1.1, i2]
    omega
theorem c_passone (hd : 8 ≤ d) (h1 : CZ w Z) (h3 : WZ Z) (hX : WH (xst Z).1.1) : ∃ w1 w2, ee_run ee_B P d 65 [.ref 5, .ref 2] w = some ([], w1) ∧ ee_run ee_B P d 80 [.ref 0, .ref 2] w1 = some ([], w2) ∧ CZ w2 (xst Z) ∧ chg hmrg w w2 := by
  obtain ⟨w1, n1, n2, n3⟩ := c_keep (P := P) (d := d) (by omega) st5 hd2_ok (by omega) h1.1.2.2.1 h1.1.1 h1.1.2.1
  have f : ∀ c, c < 5 ∨ 97 ≤ c → srg 5 c = false := fun c h => by unfold srg; rw [rg_f]; omega
  have hx := CH_chg h1.1.1 n3 (f _ (by omega)) (f _ (by omega)) (f _ (by omega))
  obtain ⟨c1, c2, c3, c4, -⟩ := h1.1.2.2.2.1
  have hR : RL w1 (rul Z) := by
    obtain ⟨n, r1, r2, r3⟩ := RL_of h1 h3
    refine ⟨n, r1, (n3.1 _ _ (f _ (by omega))).trans r2, ?_⟩
    rw [n3.1 1 5 (f _ (by omega))]
    rcases r3 with ⟨i, T, q1, q2, q3, q4⟩ | r3
    · exact Or.inl ⟨i, T, q1, q2, q3, CT_chg q4 n3 (fun c q5 q6 => f c (by omega))⟩
    · exact Or.inr r3
  obtain ⟨w2, m1, m2, m3⟩ := c_sample (P := P) (d := d) hd hd2_ok (by omega) hx h1.1.2.1 h3.1.1.1.1.1 hR (wob := Z.1.2.2.1) (fun k hk => (n3.1 _ _ (f _ (by omega))).trans (c1 k hk)) ((n3.1 _ _ (f _ (by omega))).trans c2)
  have hc : chg hmrg w w2 := chg_trans (chg_mono n3 srg_hm) (chg_mono m3 (fun c h => by unfold smrg; rw [rgo_f]; exact ⟨hrg_hm c h, mrg_hm c h⟩))
  have a := CA_hs h1.1 hc (hmrg_f (by omega) (by omega)) (fun c q1 q2 => hmrg_f (by omega) (by omega)) m2 hX.2.1 (CS_chg n2 m3 (fun c q1 q2 => smrg_f (by omega) (by omega)))
  exact ⟨w1, w2, n1, m1, CZ_rest h1 hc (hmrg_f (by omega) (by omega)) (hmrg_f (by omega) (by omega)) (hmrg_f (by omega) (by omega)) (fun c q1 q2 => hmrg_f (by omega) (by omega)) a (CA_chg h1.2.1 hc (fun c q1 q2 => hmrg_f (by omega) (by omega))) (Nat.le_refl _), hc⟩
theorem c_pass (hd : 9 ≤ d) (h1 : CZ w Z) (h3 : WZ Z) {n : Nat} (hn : (Z.1.1.1 0).toInt + n ≤ 9999) : ∃ w', ee_run ee_B P d 79 [.ref 0, .int (Int32.ofNat n)] w = some ([], w') ∧ CZ w' (itz n Z) ∧ chg hmrg w w' := by
  obtain ⟨d, rfl⟩ : ∃ k, d = k + 1 := ⟨d - 1, by omega⟩
  have hd8 : 8 ≤ d := by omega
  have h0 := h3.1.1.1.1.1
  rw [rn_79 cz_0]
  obtain ⟨r, hr, hq⟩ := wh_n (f := ee_turn (ee_ev es_sh es_rf (ee_run ee_B P d) lx_79_1) (ee_evS es_sh es_rf (ee_run ee_B P d) lb_79_1))
    (I := fun m x => ∃ k, m = n - k ∧ k ≤ n ∧ x.1 = [some (.ref 0), some (.int (Int32.ofNat n)), some (.int (Int32.ofNat k))] ∧ CZ x.2 (itz k Z) ∧ chg hmrg w x.2)
    (Q := fun r => ∃ env' w', r = .inl (env', w') ∧ CZ w' (itz n Z) ∧ chg hmrg w w')
    (by
      rintro m ⟨env, x⟩ ⟨k, rfl, hk, he, hz, hc⟩
      dsimp only at he hz hc
      subst he
      have h9 : (Int32.ofNat k < Int32.ofNat n) ↔ k < n := j_lt (by omega) (by omega)
      by_cases q : k < n
      · left
        obtain ⟨i1, i2⟩ := itz_0 Z k (by omega) h3
        obtain ⟨j1, j2⟩ := itz_0 Z (k + 1) (by omega) h3
        obtain ⟨w1, w2, n1, n2, n3, n4⟩ := c_passone (P := P) hd8 hz i1 j1.1.1
        refine ⟨([some (.ref 0), some (.int (Int32.ofNat n)), some (.int (Int32.ofNat (k + 1)))], w2), n - (k + 1), ?_, by omega, k + 1, rfl, by omega, rfl, n3, chg_trans hc n4⟩
        simp only [h9, q, n1, n2, j_s, j_a, cz_0, cz_r0, al_1.1, al_1.2.1, al_1.2.2.1, rvs, lx_79_1, lb_79_1, ee_turn, k_0, v_call, v_cmp, v_cons, v_get, v_int, v_loc, v_nil, w_exp0, w_exp1, w_inc, w_retv, w_seq, w_set, List.getElem?_cons_zero, List.getElem?_cons_succ, List.set_cons_zero, List.set_cons_succ, ee_cmp0, ee_cmp1, ee_cmp2, ee_cmp3, ee_cmp4, ee_cmp5, ee_cmpL0, ee_cmpL1, ee_cmpL2, ee_cmpL3, ee_cmpL4, ee_cmpL5, ee_tru_eb, decide_eq_true_eq, ib_i, ie_b, ie_f, ie_t, ib_l, fin_i, fin_l, fin_v, fin_z, fin_a, fin_n, ee_b_0, ee_fld0, ee_fld1, ee_fld2, ee_fld3, bi_0, bi_1, bi_2, bi_3, bi_4, bi_5, bi_6, bi_7, bi_8, bi_9, bi_10, bl_20, bl_21, bl_22, bl_23, bl_24, bl_25, bl_26, bl_48, bl_49, un_0, un_1, un_2, un_3, if_true, if_false, ite_true, ite_false, Bool.false_eq_true, Bool.not_eq_false, decide_not, Bool.not_not, reduceCtorEq, st_i, st_l, st_r, st_n, ee_noL, ee_noL.eq_1, List.length_cons, List.length_nil, Nat.reduceAdd, Nat.reduceLT, Nat.zero_add, and_true, true_and, and_self, fin_ite, pu_0, pu_1, pu_3, sto_0, el_0, Bool.not_eq_true, decide_eq_false_iff_not, Bool.decide_eq_true, Bool.decide_eq_false, decide_true, decide_false, Bool.not_true, Bool.not_false, Bool.and_self, Bool.and_true, Bool.and_false, Bool.true_and, Bool.false_and, Bool.or_true, Bool.or_false, Bool.true_or, Bool.false_or, if_true, if_false, Bool.false_eq_true]
      · right
        have : k = n := by omega
        subst this
        refine ⟨.inl ([some (.ref 0), some (.int (Int32.ofNat k)), some (.int (Int32.ofNat k))], x), ?_, _, _, rfl, hz, hc⟩
        simp only [h9, q, lx_79_1, lb_79_1, ee_turn, k_0, v_call, v_cmp, v_cons, v_get, v_int, v_loc, v_nil, w_exp0, w_exp1, w_inc, w_retv, w_seq, w_set, List.getElem?_cons_zero, List.getElem?_cons_succ, List.set_cons_zero, List.set_cons_succ, ee_cmp0, ee_cmp1, ee_cmp2, ee_cmp3, ee_cmp4, ee_cmp5, ee_cmpL0, ee_cmpL1, ee_cmpL2, ee_cmpL3, ee_cmpL4, ee_cmpL5, ee_tru_eb, decide_eq_true_eq, ib_i, ie_b, ie_f, ie_t, ib_l, fin_i, fin_l, fin_v, fin_z, fin_a, fin_n, ee_b_0, ee_fld0, ee_fld1, ee_fld2, ee_fld3, bi_0, bi_1, bi_2, bi_3, bi_4, bi_5, bi_6, bi_7, bi_8, bi_9, bi_10, bl_20, bl_21, bl_22, bl_23, bl_24, bl_25, bl_26, bl_48, bl_49, un_0, un_1, un_2, un_3, if_true, if_false, ite_true, ite_false, Bool.false_eq_true, Bool.not_eq_false, decide_not, Bool.not_not, reduceCtorEq, st_i, st_l, st_r, st_n, ee_noL, ee_noL.eq_1, List.length_cons, List.length_nil, Nat.reduceAdd, Nat.reduceLT, Nat.zero_add, and_true, true_and, and_self, fin_ite, pu_0, pu_1, pu_3, sto_0, el_0, Bool.not_eq_true, decide_eq_false_iff_not, Bool.decide_eq_true, Bool.decide_eq_false, decide_true, decide_false, Bool.not_true, Bool.not_false, Bool.and_self, Bool.and_true, Bool.and_false, Bool.true_and, Bool.false_and, Bool.or_true, Bool.or_false, Bool.true_or, Bool.false_or, if_true, if_false, Bool.false_eq_true])
    (n - 0) ([some (.ref 0), some (.int (Int32.ofNat n)), some (.int (Int32.ofNat 0))], w) ⟨0, rfl, Nat.zero_le _, rfl, h1, chg_refl _ _⟩
  obtain ⟨env', w', rfl, q1, q2⟩ := hq
  rw [k_0] at hr
  refine ⟨w', ?_, q1, q2⟩
  simp only [w_while, hr, be_79, k_0, v_call, v_cmp, v_cons, v_get, v_int, v_loc, v_nil, w_exp0, w_exp1, w_inc, w_retv, w_seq, w_set, List.getElem?_cons_zero, List.getElem?_cons_succ, List.set_cons_zero, List.set_cons_succ, ee_cmp0, ee_cmp1, ee_cmp2, ee_cmp3, ee_cmp4, ee_cmp5, ee_cmpL0, ee_cmpL1, ee_cmpL2, ee_cmpL3, ee_cmpL4, ee_cmpL5, ee_tru_eb, decide_eq_true_eq, ib_i, ie_b, ie_f, ie_t, ib_l, fin_i, fin_l, fin_v, fin_z, fin_a, fin_n, ee_b_0, ee_fld0, ee_fld1, ee_fld2, ee_fld3, bi_0, bi_1, bi_2, bi_3, bi_4, bi_5, bi_6, bi_7, bi_8, bi_9, bi_10, bl_20, bl_21, bl_22, bl_23, bl_24, bl_25, bl_26, bl_48, bl_49, un_0, un_1, un_2, un_3, if_true, if_false, ite_true, ite_false, Bool.false_eq_true, Bool.not_eq_false, decide_not, Bool.not_not, reduceCtorEq, st_i, st_l, st_r, st_n, ee_noL, ee_noL.eq_1, List.length_cons, List.length_nil, Nat.reduceAdd, Nat.reduceLT, Nat.zero_add, and_true, true_and, and_self, fin_ite, pu_0, pu_1, pu_3, sto_0, el_0, Bool.not_eq_true, decide_eq_false_iff_not, Bool.decide_eq_true, Bool.decide_eq_false, decide_true, decide_false, Bool.not_true, Bool.not_false, Bool.and_self, Bool.and_true, Bool.and_false, Bool.true_and, Bool.false_and, Bool.or_true, Bool.or_false, Bool.true_or, Bool.false_or, if_true, if_false, Bool.false_eq_true]
theorem m_passone (hd : 10 ≤ d) (hM : MZ w Z) (h3 : WZ Z) : ∃ w1 w2, ee_run ee_B P d 236 [.ref 236] w = some ([], w1) ∧ ee_run ee_B P d 247 [.ref 236] w1 = some ([], w2) ∧ MZ w2 (xst Z) ∧ chk pst w w2 := by
  obtain ⟨w2, n1, n2, n3⟩ := m_keep (P := P) (d := d) (by omega) hM.1 h3.1
  have hz : w2.1 236 23 = 1 := (n3.1 _ _ (by unfold pkp; omega)).trans hM.2.2.2.2.2
  have hR : RMi w2 (w2.1 237 1) (rul Z) := by
    rw [n3.1 237 1 (by unfold pkp; omega)]
    exact RMi_eq (RM_of hM h3) (fun j => n3.1 _ _ (by unfold pkp; omega))
  obtain ⟨w3, m1, m2, m3⟩ := m_sample (P := P) (d := d) hd (MHz_of n2 hz h3.1.1.2.1) h3.1.1.1 hR (wob := Z.1.2.2.1) n2.2.2.2.1 n2.2.2.2.2.1
  obtain ⟨s1, s2⟩ := m_step (p := pst) hM h3 n2 n3 m2 m3
  exact ⟨w2, w3, n1, m1, s1, s2⟩
theorem m_passed (hd : 11 ≤ d) (hM : MZ w Z) (h3 : WZ Z) {n c : Nat} (hn : n < 2147483648) (hc : (Z.1.1.1 0).toInt + c = 9999) : ∃ w', ee_run ee_B P d 246 [.ref 236, .int (Int32.ofNat n)] w = some ([.int (ee_b (decide (n ≤ c)))], w') ∧ MZ w' (itz (min n c) Z) ∧ chk pst w w' := by
  obtain ⟨d, rfl⟩ : ∃ k, d = k + 1 := ⟨d - 1, by omega⟩
  have hd10 : 10 ≤ d := by omega
  have h0 := h3.1.1.1.1.1
  rw [rn_246 mz_0]
  obtain ⟨r, hr, hq⟩ := wh_n (f := ee_turn (ee_ev es_sh es_rf (ee_run ee_B P d) lx_246_1) (ee_evS es_sh es_rf (ee_run ee_B P d) lb_246_1))
    (I := fun m x => ∃ k, m = n - k ∧ k ≤ n ∧ k ≤ c ∧ x.1 = [some (.ref 236), some (.int (Int32.ofNat n)), some (.int (Int32.ofNat k))] ∧ MZ x.2 (itz k Z) ∧ chk pst w x.2)
    (Q := fun r => ∃ w', ((n ≤ c ∧ ∃ env', r = .inl (env', w')) ∨ (¬ n ≤ c ∧ r = .inr ([.int 0], w'))) ∧ MZ w' (itz (min n c) Z) ∧ chk pst w w')
    (by
      rintro m ⟨env, x⟩ ⟨k, rfl, hk, hkc, he, hz, hcc⟩
      dsimp only at he hz hcc
      subst he
      have h9 : (Int32.ofNat k < Int32.ofNat n) ↔ k < n := j_lt (by omega) (by omega)
      obtain ⟨i1, i2⟩ := itz_0 Z k (by omega) h3
      have h5 : x.1 237 5 = (itz k Z).1.1.1 0 := hz.1.2.1.1 0 (by omega) (by omega)
      by_cases q : k < n
      · by_cases q2 : k = c
        · right
          have e5 : x.1 237 5 = 9999 := by rw [h5, i32_eq, i2, show (9999 : Int32).toInt = 9999 from rfl]; omega
          refine ⟨.inr ([.int 0], x), ?_, x, Or.inr ⟨by omega, rfl⟩, ?_, hcc⟩
          · simp only [h9, q, e5, lx_246_1, lb_246_1, ee_turn, k_0, k_1, k_5, k_9999, nz_1, nz_5, nz_9999, v_call, v_cmp, v_cons, v_get, v_idx, v_int, v_loc, v_nil, w_exp0, w_exp1, w_if, w_inc, w_ret, w_seq, w_set, List.getElem?_cons_zero, List.getElem?_cons_succ, List.set_cons_zero, List.set_cons_succ, ee_cmp0, ee_cmp1, ee_cmp2, ee_cmp3, ee_cmp4, ee_cmp5, ee_cmpL0, ee_cmpL1, ee_cmpL2, ee_cmpL3, ee_cmpL4, ee_cmpL5, ee_tru_eb, decide_eq_true_eq, ib_i, ie_b, ie_f, ie_t, ib_l, fin_i, fin_l, fin_v, fin_z, fin_a, fin_n, ee_b_0, ee_fld0, ee_fld1, ee_fld2, ee_fld3, bi_0, bi_1, bi_2, bi_3, bi_4, bi_5, bi_6, bi_7, bi_8, bi_9, bi_10, bl_20, bl_21, bl_22, bl_23, bl_24, bl_25, bl_26, bl_48, bl_49, un_0, un_1, un_2, un_3, if_true, if_false, ite_true, ite_false, Bool.false_eq_true, Bool.not_eq_false, decide_not, Bool.not_not, reduceCtorEq, st_i, st_l, st_r, st_n, ee_noL, ee_noL.eq_1, List.length_cons, List.length_nil, Nat.reduceAdd, Nat.reduceLT, Nat.zero_add, and_true, true_and, and_self, fin_ite, pu_0, pu_1, pu_3, sto_0, el_0, Bool.not_eq_true, decide_eq_false_iff_not, Bool.decide_eq_true, Bool.decide_eq_false, decide_true, decide_false, Bool.not_true, Bool.not_false, Bool.and_self, Bool.and_true, Bool.and_false, Bool.true_and, Bool.false_and, Bool.or_true, Bool.or_false, Bool.true_or, Bool.false_or, if_true, if_false, Bool.false_eq_true, tc_0, ix_0, tc_1, ix_1, tc_5, ix_5, tc_9999, ix_9999, mz_0, mz_1, mz_a, rvs, j_s, j_a, wI_at, Nat.reduceEqDiff, zero_ne_one_n, one_ne_zero_n]
          · rw [show min n c = k by omega]; exact hz
        · left
          have e5 : ¬ (itz k Z).1.1.1 0 = 9999 := fun y => by
            rw [y, show (9999 : Int32).toInt = 9999 from rfl] at i2; omega
          obtain ⟨w1, w2, n1, n2, n3, n4⟩ := m_passone (P := P) hd10 hz i1
          refine ⟨([some (.ref 236), some (.int (Int32.ofNat n)), some (.int (Int32.ofNat (k + 1)))], w2), n - (k + 1), ?_, by omega, k + 1, rfl, by omega, by omega, rfl, n3, chk_trans hcc n4⟩
          simp only [h9, q, h5, e5, n1, n2, lx_246_1, lb_246_1, ee_turn, k_0, k_1, k_5, k_9999, nz_1, nz_5, nz_9999, v_call, v_cmp, v_cons, v_get, v_idx, v_int, v_loc, v_nil, w_exp0, w_exp1, w_if, w_inc, w_ret, w_seq, w_set, List.getElem?_cons_zero, List.getElem?_cons_succ, List.set_cons_zero, List.set_cons_succ, ee_cmp0, ee_cmp1, ee_cmp2, ee_cmp3, ee_cmp4, ee_cmp5, ee_cmpL0, ee_cmpL1, ee_cmpL2, ee_cmpL3, ee_cmpL4, ee_cmpL5, ee_tru_eb, decide_eq_true_eq, ib_i, ie_b, ie_f, ie_t, ib_l, fin_i, fin_l, fin_v, fin_z, fin_a, fin_n, ee_b_0, ee_fld0, ee_fld1, ee_fld2, ee_fld3, bi_0, bi_1, bi_2, bi_3, bi_4, bi_5, bi_6, bi_7, bi_8, bi_9, bi_10, bl_20, bl_21, bl_22, bl_23, bl_24, bl_25, bl_26, bl_48, bl_49, un_0, un_1, un_2, un_3, if_true, if_false, ite_true, ite_false, Bool.false_eq_true, Bool.not_eq_false, decide_not, Bool.not_not, reduceCtorEq, st_i, st_l, st_r, st_n, ee_noL, ee_noL.eq_1, List.length_cons, List.length_nil, Nat.reduceAdd, Nat.reduceLT, Nat.zero_add, and_true, true_and, and_self, fin_ite, pu_0, pu_1, pu_3, sto_0, el_0, Bool.not_eq_true, decide_eq_false_iff_not, Bool.decide_eq_true, Bool.decide_eq_false, decide_true, decide_false, Bool.not_true, Bool.not_false, Bool.and_self, Bool.and_true, Bool.and_false, Bool.true_and, Bool.false_and, Bool.or_true, Bool.or_false, Bool.true_or, Bool.false_or, if_true, if_false, Bool.false_eq_true, tc_0, ix_0, tc_1, ix_1, tc_5, ix_5, tc_9999, ix_9999, mz_0, mz_1, mz_a, rvs, j_s, j_a, wI_at, Nat.reduceEqDiff, zero_ne_one_n, one_ne_zero_n]
      · right
        have : k = n := by omega
        subst this
        refine ⟨.inl ([some (.ref 236), some (.int (Int32.ofNat k)), some (.int (Int32.ofNat k))], x), ?_, x, Or.inl ⟨hkc, _, rfl⟩, ?_, hcc⟩
        · simp only [h9, q, lx_246_1, lb_246_1, ee_turn, k_0, k_1, k_5, k_9999, nz_1, nz_5, nz_9999, v_call, v_cmp, v_cons, v_get, v_idx, v_int, v_loc, v_nil, w_exp0, w_exp1, w_if, w_inc, w_ret, w_seq, w_set, List.getElem?_cons_zero, List.getElem?_cons_succ, List.set_cons_zero, List.set_cons_succ, ee_cmp0, ee_cmp1, ee_cmp2, ee_cmp3, ee_cmp4, ee_cmp5, ee_cmpL0, ee_cmpL1, ee_cmpL2, ee_cmpL3, ee_cmpL4, ee_cmpL5, ee_tru_eb, decide_eq_true_eq, ib_i, ie_b, ie_f, ie_t, ib_l, fin_i, fin_l, fin_v, fin_z, fin_a, fin_n, ee_b_0, ee_fld0, ee_fld1, ee_fld2, ee_fld3, bi_0, bi_1, bi_2, bi_3, bi_4, bi_5, bi_6, bi_7, bi_8, bi_9, bi_10, bl_20, bl_21, bl_22, bl_23, bl_24, bl_25, bl_26, bl_48, bl_49, un_0, un_1, un_2, un_3, if_true, if_false, ite_true, ite_false, Bool.false_eq_true, Bool.not_eq_false, decide_not, Bool.not_not, reduceCtorEq, st_i, st_l, st_r, st_n, ee_noL, ee_noL.eq_1, List.length_cons, List.length_nil, Nat.reduceAdd, Nat.reduceLT, Nat.zero_add, and_true, true_and, and_self, fin_ite, pu_0, pu_1, pu_3, sto_0, el_0, Bool.not_eq_true, decide_eq_false_iff_not, Bool.decide_eq_true, Bool.decide_eq_false, decide_true, decide_false, Bool.not_true, Bool.not_false, Bool.and_self, Bool.and_true, Bool.and_false, Bool.true_and, Bool.false_and, Bool.or_true, Bool.or_false, Bool.true_or, Bool.false_or, if_true, if_false, Bool.false_eq_true, tc_0, ix_0, tc_1, ix_1, tc_5, ix_5, tc_9999, ix_9999, mz_0, mz_1, mz_a, rvs, j_s, j_a, wI_at, Nat.reduceEqDiff, zero_ne_one_n, one_ne_zero_n]
        · rw [show min k c = k by omega]; exact hz)
    (n - 0) ([some (.ref 236), some (.int (Int32.ofNat n)), some (.int (Int32.ofNat 0))], w) ⟨0, rfl, Nat.zero_le _, Nat.zero_le _, rfl, hM, chk_refl _ _⟩
  rw [k_0] at hr
  obtain ⟨w', hq1, hq2, hq3⟩ := hq
  refine ⟨w', ?_, hq2, hq3⟩
  rcases hq1 with ⟨g1, env', rfl⟩ | ⟨g1, rfl⟩
  · rw [decide_eq_true g1]
    simp only [w_while, hr, be_246, k_0, k_1, k_5, k_9999, nz_1, nz_5, nz_9999, v_call, v_cmp, v_cons, v_get, v_idx, v_int, v_loc, v_nil, w_exp0, w_exp1, w_if, w_inc, w_ret, w_seq, w_set, List.getElem?_cons_zero, List.getElem?_cons_succ, List.set_cons_zero, List.set_cons_succ, ee_cmp0, ee_cmp1, ee_cmp2, ee_cmp3, ee_cmp4, ee_cmp5, ee_cmpL0, ee_cmpL1, ee_cmpL2, ee_cmpL3, ee_cmpL4, ee_cmpL5, ee_tru_eb, decide_eq_true_eq, ib_i, ie_b, ie_f, ie_t, ib_l, fin_i, fin_l, fin_v, fin_z, fin_a, fin_n, ee_b_0, ee_fld0, ee_fld1, ee_fld2, ee_fld3, bi_0, bi_1, bi_2, bi_3, bi_4, bi_5, bi_6, bi_7, bi_8, bi_9, bi_10, bl_20, bl_21, bl_22, bl_23, bl_24, bl_25, bl_26, bl_48, bl_49, un_0, un_1, un_2, un_3, if_true, if_false, ite_true, ite_false, Bool.false_eq_true, Bool.not_eq_false, decide_not, Bool.not_not, reduceCtorEq, st_i, st_l, st_r, st_n, ee_noL, ee_noL.eq_1, List.length_cons, List.length_nil, Nat.reduceAdd, Nat.reduceLT, Nat.zero_add, and_true, true_and, and_self, fin_ite, pu_0, pu_1, pu_3, sto_0, el_0, Bool.not_eq_true, decide_eq_false_iff_not, Bool.decide_eq_true, Bool.decide_eq_false, decide_true, decide_false, Bool.not_true, Bool.not_false, Bool.and_self, Bool.and_true, Bool.and_false, Bool.true_and, Bool.false_and, Bool.or_true, Bool.or_false, Bool.true_or, Bool.false_or, if_true, if_false, Bool.false_eq_true, ix_0, ix_1, ix_5, ix_9999, tc_0, tc_1, tc_5, tc_9999, mz_0, mz_1, mz_a, rvs, j_s, j_a, wI_at, Nat.reduceEqDiff, zero_ne_one_n, one_ne_zero_n]
    rfl
  · rw [decide_eq_false g1]
    simp only [w_while, hr, be_246, k_0, k_1, k_5, k_9999, nz_1, nz_5, nz_9999, v_call, v_cmp, v_cons, v_get, v_idx, v_int, v_loc, v_nil, w_exp0, w_exp1, w_if, w_inc, w_ret, w_seq, w_set, List.getElem?_cons_zero, List.getElem?_cons_succ, List.set_cons_zero, List.set_cons_succ, ee_cmp0, ee_cmp1, ee_cmp2, ee_cmp3, ee_cmp4, ee_cmp5, ee_cmpL0, ee_cmpL1, ee_cmpL2, ee_cmpL3, ee_cmpL4, ee_cmpL5, ee_tru_eb, decide_eq_true_eq, ib_i, ie_b, ie_f, ie_t, ib_l, fin_i, fin_l, fin_v, fin_z, fin_a, fin_n, ee_b_0, ee_fld0, ee_fld1, ee_fld2, ee_fld3, bi_0, bi_1, bi_2, bi_3, bi_4, bi_5, bi_6, bi_7, bi_8, bi_9, bi_10, bl_20, bl_21, bl_22, bl_23, bl_24, bl_25, bl_26, bl_48, bl_49, un_0, un_1, un_2, un_3, if_true, if_false, ite_true, ite_false, Bool.false_eq_true, Bool.not_eq_false, decide_not, Bool.not_not, reduceCtorEq, st_i, st_l, st_r, st_n, ee_noL, ee_noL.eq_1, List.length_cons, List.length_nil, Nat.reduceAdd, Nat.reduceLT, Nat.zero_add, and_true, true_and, and_self, fin_ite, pu_0, pu_1, pu_3, sto_0, el_0, Bool.not_eq_true, decide_eq_false_iff_not, Bool.decide_eq_true, Bool.decide_eq_false, decide_true, decide_false, Bool.not_true, Bool.not_false, Bool.and_self, Bool.and_true, Bool.and_false, Bool.true_and, Bool.false_and, Bool.or_true, Bool.or_false, Bool.true_or, Bool.false_or, if_true, if_false, Bool.false_eq_true, ix_0, ix_1, ix_5, ix_9999, tc_0, tc_1, tc_5, tc_9999, mz_0, mz_1, mz_a, rvs, j_s, j_a, wI_at, Nat.reduceEqDiff, zero_ne_one_n, one_ne_zero_n]
    rfl
theorem b_day (hd : 12 ≤ d) (hS : Sim w) (n : Int32) : Both P d 78 245 [.int n] w := by
  obtain ⟨Z, h1, h2, h3⟩ := hS
  obtain ⟨d, rfl⟩ : ∃ k, d = k + 1 := ⟨d - 1, by omega⟩
  have hd1 : 1 ≤ d := by omega
  have hd9 : 9 ≤ d := by omega
  have hd11 : 11 ≤ d := by omega
  have h7 : w.1 2 7 = Z.1.1.1 0 := h1.1.1.1.1
  have h5 : w.1 237 5 = Z.1.1.1 0 := h2.1.2.1.1 0 (by omega) (by omega)
  have c0 := h3.1.1.1.1.1
  have c9 := h3.1.1.2.2.1
  cases q : (decide (1 ≤ n) && decide (n ≤ 60))
  · refine both_q h1 h2 h3 (r := .int (-1)) ?_ ?_
    · rw [rn_78 cz_0]; simp only [r_within hd1, q, bd_78, k_1, k_4294967295, k_60, k_9999, nz_1, nz_60, nz_9999, v_bin, v_call, v_cmp, v_cons, v_get, v_int, v_loc, v_nil, v_not, v_or, v_z, w_exp0, w_exp1, w_if, w_ret, w_seq, List.getElem?_cons_zero, List.getElem?_cons_succ, List.set_cons_zero, List.set_cons_succ, ee_cmp0, ee_cmp1, ee_cmp2, ee_cmp3, ee_cmp4, ee_cmp5, ee_cmpL0, ee_cmpL1, ee_cmpL2, ee_cmpL3, ee_cmpL4, ee_cmpL5, ee_tru_eb, decide_eq_true_eq, ib_i, ie_b, ie_f, ie_t, ib_l, fin_i, fin_l, fin_v, fin_z, fin_a, fin_n, ee_b_0, ee_fld0, ee_fld1, ee_fld2, ee_fld3, bi_0, bi_1, bi_2, bi_3, bi_4, bi_5, bi_6, bi_7, bi_8, bi_9, bi_10, bl_20, bl_21, bl_22, bl_23, bl_24, bl_25, bl_26, bl_48, bl_49, un_0, un_1, un_2, un_3, if_true, if_false, ite_true, ite_false, Bool.false_eq_true, Bool.not_eq_false, decide_not, Bool.not_not, reduceCtorEq, st_i, st_l, st_r, st_n, ee_noL, ee_noL.eq_1, List.length_cons, List.length_nil, Nat.reduceAdd, Nat.reduceLT, Nat.zero_add, and_true, true_and, and_self, fin_ite, pu_0, pu_1, pu_3, sto_0, el_0, Bool.not_eq_true, decide_eq_false_iff_not, Bool.decide_eq_true, Bool.decide_eq_false, decide_true, decide_false, Bool.not_true, Bool.not_false, Bool.and_self, Bool.and_true, Bool.and_false, Bool.true_and, Bool.false_and, Bool.or_true, Bool.or_false, Bool.true_or, Bool.false_or, if_true, if_false, Bool.false_eq_true]
    · rw [rn_245 mz_0]; simp only [r_isIn hd1, q, bd_245, k_1, k_11, k_4294967295, k_5, k_60, k_9999, nz_1, nz_11, nz_5, nz_60, nz_9999, v_and, v_bin, v_call, v_cmp, v_cons, v_get, v_idx, v_int, v_loc, v_nil, v_tern, v_z, w_ret, List.getElem?_cons_zero, List.getElem?_cons_succ, List.set_cons_zero, List.set_cons_succ, ee_cmp0, ee_cmp1, ee_cmp2, ee_cmp3, ee_cmp4, ee_cmp5, ee_cmpL0, ee_cmpL1, ee_cmpL2, ee_cmpL3, ee_cmpL4, ee_cmpL5, ee_tru_eb, decide_eq_true_eq, ib_i, ie_b, ie_f, ie_t, ib_l, fin_i, fin_l, fin_v, fin_z, fin_a, fin_n, ee_b_0, ee_fld0, ee_fld1, ee_fld2, ee_fld3, bi_0, bi_1, bi_2, bi_3, bi_4, bi_5, bi_6, bi_7, bi_8, bi_9, bi_10, bl_20, bl_21, bl_22, bl_23, bl_24, bl_25, bl_26, bl_48, bl_49, un_0, un_1, un_2, un_3, if_true, if_false, ite_true, ite_false, Bool.false_eq_true, Bool.not_eq_false, decide_not, Bool.not_not, reduceCtorEq, st_i, st_l, st_r, st_n, ee_noL, ee_noL.eq_1, List.length_cons, List.length_nil, Nat.reduceAdd, Nat.reduceLT, Nat.zero_add, and_true, true_and, and_self, fin_ite, pu_0, pu_1, pu_3, sto_0, el_0, Bool.not_eq_true, decide_eq_false_iff_not, Bool.decide_eq_true, Bool.decide_eq_false, decide_true, decide_false, Bool.not_true, Bool.not_false, Bool.and_self, Bool.and_true, Bool.and_false, Bool.true_and, Bool.false_and, Bool.or_true, Bool.or_false, Bool.true_or, Bool.false_or, if_true, if_false, Bool.false_eq_true, ix_1, ix_11, ix_5, ix_60, ix_9999, tc_1, tc_11, tc_5, tc_60, tc_9999, mz_0, mz_1, mz_a, rvs, j_s, j_a, wI_at, Nat.reduceEqDiff, zero_ne_one_n, one_ne_zero_n]
  · have hn := (in_iff n 1 60).1 q
    rw [show (1 : Int32).toInt = 1 from rfl, show (60 : Int32).toInt = 60 from rfl] at hn
    obtain ⟨k, k1, k2, k3⟩ := j_of (s := n) (by omega)
    have ea : (9999 - n).toInt = 9999 - n.toInt := by rw [i32_sub] <;> rw [show (9999 : Int32).toInt = 9999 from rfl] <;> omega
    have eb : (Z.1.1.1 0 + n).toInt = (Z.1.1.1 0).toInt + n.toInt := by rw [i32_add] <;> omega
    by_cases q2 : (Z.1.1.1 0).toInt + n.toInt ≤ 9999
    · have p1 : ¬ (9999 - n < Z.1.1.1 0) := by rw [i32_lt, ea]; omega
      have p2 : Z.1.1.1 0 + n ≤ 9999 := by rw [i32_le, eb, show (9999 : Int32).toInt = 9999 from rfl]; omega
      obtain ⟨i1, i2⟩ := itz_0 Z k (by omega) h3
      refine both_of h2 h3 i1 (r := .int ((itz k Z).1.1.1 6)) ?_ ?_
      · obtain ⟨w', n1, n2, n3⟩ := c_pass (P := P) hd9 h1 h3 (n := k) (by omega)
        rw [← k2] at n1
        have e6 : w'.1 2 4 = (itz k Z).1.1.1 6 := n2.1.1.1.2.2.2.2.2.2.1
        refine ⟨w', ?_, n2, chg_mono n3 hm_lo⟩
        rw [rn_78 cz_0]
        simp only [r_within hd1, q, h7, p1, n1, e6, cz_0, cz_r0, al_1.1, al_1.2.1, hd2_ok.1, rvs, bd_78, k_1, k_4294967295, k_60, k_9999, nz_1, nz_60, nz_9999, v_bin, v_call, v_cmp, v_cons, v_get, v_int, v_loc, v_nil, v_not, v_or, v_z, w_exp0, w_exp1, w_if, w_ret, w_seq, List.getElem?_cons_zero, List.getElem?_cons_succ, List.set_cons_zero, List.set_cons_succ, ee_cmp0, ee_cmp1, ee_cmp2, ee_cmp3, ee_cmp4, ee_cmp5, ee_cmpL0, ee_cmpL1, ee_cmpL2, ee_cmpL3, ee_cmpL4, ee_cmpL5, ee_tru_eb, decide_eq_true_eq, ib_i, ie_b, ie_f, ie_t, ib_l, fin_i, fin_l, fin_v, fin_z, fin_a, fin_n, ee_b_0, ee_fld0, ee_fld1, ee_fld2, ee_fld3, bi_0, bi_1, bi_2, bi_3, bi_4, bi_5, bi_6, bi_7, bi_8, bi_9, bi_10, bl_20, bl_21, bl_22, bl_23, bl_24, bl_25, bl_26, bl_48, bl_49, un_0, un_1, un_2, un_3, if_true, if_false, ite_true, ite_false, Bool.false_eq_true, Bool.not_eq_false, decide_not, Bool.not_not, reduceCtorEq, st_i, st_l, st_r, st_n, ee_noL, ee_noL.eq_1, List.length_cons, List.length_nil, Nat.reduceAdd, Nat.reduceLT, Nat.zero_add, and_true, true_and, and_self, fin_ite, pu_0, pu_1, pu_3, sto_0, el_0, Bool.not_eq_true, decide_eq_false_iff_not, Bool.decide_eq_true, Bool.decide_eq_false, decide_true, decide_false, Bool.not_true, Bool.not_false, Bool.and_self, Bool.and_true, Bool.and_false, Bool.true_and, Bool.false_and, Bool.or_true, Bool.or_false, Bool.true_or, Bool.false_or, if_true, if_false, Bool.false_eq_true]
      · intro w1 hM
        have h5' : w1.1 237 5 = Z.1.1.1 0 := hM.1.2.1.1 0 (by omega) (by omega)
        obtain ⟨w', n1, n2, n3⟩ := m_passed (P := P) hd11 hM h3 (n := k) (c := (9999 - (Z.1.1.1 0).toInt).toNat) k1 (by omega)
        rw [← k2, decide_eq_true (show k ≤ (9999 - (Z.1.1.1 0).toInt).toNat by omega)] at n1
        rw [show min k (9999 - (Z.1.1.1 0).toInt).toNat = k by omega] at n2
        have e11 : w'.1 237 11 = (itz k Z).1.1.1 6 := n2.1.2.1.1 6 (by omega) (by omega)
        refine ⟨w', ?_, n2, chk_mono n3 pst_hi⟩
        rw [rn_245 mz_0]
        simp only [r_isIn hd1, q, h5', p2, n1, e11, bd_245, k_1, k_11, k_4294967295, k_5, k_60, k_9999, nz_1, nz_11, nz_5, nz_60, nz_9999, v_and, v_bin, v_call, v_cmp, v_cons, v_get, v_idx, v_int, v_loc, v_nil, v_tern, v_z, w_ret, List.getElem?_cons_zero, List.getElem?_cons_succ, List.set_cons_zero, List.set_cons_succ, ee_cmp0, ee_cmp1, ee_cmp2, ee_cmp3, ee_cmp4, ee_cmp5, ee_cmpL0, ee_cmpL1, ee_cmpL2, ee_cmpL3, ee_cmpL4, ee_cmpL5, ee_tru_eb, decide_eq_true_eq, ib_i, ie_b, ie_f, ie_t, ib_l, fin_i, fin_l, fin_v, fin_z, fin_a, fin_n, ee_b_0, ee_fld0, ee_fld1, ee_fld2, ee_fld3, bi_0, bi_1, bi_2, bi_3, bi_4, bi_5, bi_6, bi_7, bi_8, bi_9, bi_10, bl_20, bl_21, bl_22, bl_23, bl_24, bl_25, bl_26, bl_48, bl_49, un_0, un_1, un_2, un_3, if_true, if_false, ite_true, ite_false, Bool.false_eq_true, Bool.not_eq_false, decide_not, Bool.not_not, reduceCtorEq, st_i, st_l, st_r, st_n, ee_noL, ee_noL.eq_1, List.length_cons, List.length_nil, Nat.reduceAdd, Nat.reduceLT, Nat.zero_add, and_true, true_and, and_self, fin_ite, pu_0, pu_1, pu_3, sto_0, el_0, Bool.not_eq_true, decide_eq_false_iff_not, Bool.decide_eq_true, Bool.decide_eq_false, decide_true, decide_false, Bool.not_true, Bool.not_false, Bool.and_self, Bool.and_true, Bool.and_false, Bool.true_and, Bool.false_and, Bool.or_true, Bool.or_false, Bool.true_or, Bool.false_or, if_true, if_false, Bool.false_eq_true, ix_1, ix_11, ix_5, ix_60, ix_9999, tc_1, tc_11, tc_5, tc_60, tc_9999, mz_0, mz_1, mz_a, rvs, j_s, j_a, wI_at, Nat.reduceEqDiff, zero_ne_one_n, one_ne_zero_n]
    · have p1 : (9999 - n < Z.1.1.1 0) := by rw [i32_lt, ea]; omega
      have p2 : ¬ Z.1.1.1 0 + n ≤ 9999 := by rw [i32_le, eb, show (9999 : Int32).toInt = 9999 from rfl]; omega
      refine both_q h1 h2 h3 (r := .int (-1)) ?_ ?_
      · rw [rn_78 cz_0]; simp only [r_within hd1, q, h7, p1, cz_0, cz_r0, al_1.1, al_1.2.1, hd2_ok.1, rvs, bd_78, k_1, k_4294967295, k_60, k_9999, nz_1, nz_60, nz_9999, v_bin, v_call, v_cmp, v_cons, v_get, v_int, v_loc, v_nil, v_not, v_or, v_z, w_exp0, w_exp1, w_if, w_ret, w_seq, List.getElem?_cons_zero, List.getElem?_cons_succ, List.set_cons_zero, List.set_cons_succ, ee_cmp0, ee_cmp1, ee_cmp2, ee_cmp3, ee_cmp4, ee_cmp5, ee_cmpL0, ee_cmpL1, ee_cmpL2, ee_cmpL3, ee_cmpL4, ee_cmpL5, ee_tru_eb, decide_eq_true_eq, ib_i, ie_b, ie_f, ie_t, ib_l, fin_i, fin_l, fin_v, fin_z, fin_a, fin_n, ee_b_0, ee_fld0, ee_fld1, ee_fld2, ee_fld3, bi_0, bi_1, bi_2, bi_3, bi_4, bi_5, bi_6, bi_7, bi_8, bi_9, bi_10, bl_20, bl_21, bl_22, bl_23, bl_24, bl_25, bl_26, bl_48, bl_49, un_0, un_1, un_2, un_3, if_true, if_false, ite_true, ite_false, Bool.false_eq_true, Bool.not_eq_false, decide_not, Bool.not_not, reduceCtorEq, st_i, st_l, st_r, st_n, ee_noL, ee_noL.eq_1, List.length_cons, List.length_nil, Nat.reduceAdd, Nat.reduceLT, Nat.zero_add, and_true, true_and, and_self, fin_ite, pu_0, pu_1, pu_3, sto_0, el_0, Bool.not_eq_true, decide_eq_false_iff_not, Bool.decide_eq_true, Bool.decide_eq_false, decide_true, decide_false, Bool.not_true, Bool.not_false, Bool.and_self, Bool.and_true, Bool.and_false, Bool.true_and, Bool.false_and, Bool.or_true, Bool.or_false, Bool.true_or, Bool.false_or, if_true, if_false, Bool.false_eq_true]
      · rw [rn_245 mz_0]; simp only [r_isIn hd1, q, h5, p2, bd_245, k_1, k_11, k_4294967295, k_5, k_60, k_9999, nz_1, nz_11, nz_5, nz_60, nz_9999, v_and, v_bin, v_call, v_cmp, v_cons, v_get, v_idx, v_int, v_loc, v_nil, v_tern, v_z, w_ret, List.getElem?_cons_zero, List.getElem?_cons_succ, List.set_cons_zero, List.set_cons_succ, ee_cmp0, ee_cmp1, ee_cmp2, ee_cmp3, ee_cmp4, ee_cmp5, ee_cmpL0, ee_cmpL1, ee_cmpL2, ee_cmpL3, ee_cmpL4, ee_cmpL5, ee_tru_eb, decide_eq_true_eq, ib_i, ie_b, ie_f, ie_t, ib_l, fin_i, fin_l, fin_v, fin_z, fin_a, fin_n, ee_b_0, ee_fld0, ee_fld1, ee_fld2, ee_fld3, bi_0, bi_1, bi_2, bi_3, bi_4, bi_5, bi_6, bi_7, bi_8, bi_9, bi_10, bl_20, bl_21, bl_22, bl_23, bl_24, bl_25, bl_26, bl_48, bl_49, un_0, un_1, un_2, un_3, if_true, if_false, ite_true, ite_false, Bool.false_eq_true, Bool.not_eq_false, decide_not, Bool.not_not, reduceCtorEq, st_i, st_l, st_r, st_n, ee_noL, ee_noL.eq_1, List.length_cons, List.length_nil, Nat.reduceAdd, Nat.reduceLT, Nat.zero_add, and_true, true_and, and_self, fin_ite, pu_0, pu_1, pu_3, sto_0, el_0, Bool.not_eq_true, decide_eq_false_iff_not, Bool.decide_eq_true, Bool.decide_eq_false, decide_true, decide_false, Bool.not_true, Bool.not_false, Bool.and_self, Bool.and_true, Bool.and_false, Bool.true_and, Bool.false_and, Bool.or_true, Bool.or_false, Bool.true_or, Bool.false_or, if_true, if_false, Bool.false_eq_true, ix_1, ix_11, ix_5, ix_60, ix_9999, tc_1, tc_11, tc_5, tc_60, tc_9999, mz_0, mz_1, mz_a, rvs, j_s, j_a, wI_at, Nat.reduceEqDiff, zero_ne_one_n, one_ne_zero_n]
end BD
