/-! what is foretold, on both sides -/
section BF
variable {P : Nat → Nat → List Value → ee_W → Option (List Value × ee_W)} {d : Nat} {w : ee_W} {Z : ZX} {X : HX} {R : Option TX} {wob : Nat → Int32} {lost : Int32}
def itx (wob : Nat → Int32) (lost : Int32) (R : Option TX) : Nat → HX → HX
  | 0, X => X
  | k + 1, X => xsample wob lost R (itx wob lost R k X)
theorem itx_wf (hX : wfS X.1) (hn : X.2.1 ≤ 25) : ∀ k : Nat, (X.1 0).toInt + k ≤ 20000 → wfS (itx wob lost R k X).1 ∧ (itx wob lost R k X).2.1 ≤ 25 ∧ ((itx wob lost R k X).1 0).toInt = (X.1 0).toInt + k := by
  intro k
  induction k with
  | zero =>
    intro _
    refine ⟨hX, hn, ?_⟩
    show (X.1 0).toInt = (X.1 0).toInt + ((0 : Nat) : Int)
    omega
  | succ k ih =>
    intro h
    obtain ⟨i1, i2, i3⟩ := ih (by omega)
    have e : itx wob lost R (k + 1) X = xsample wob lost R (itx wob lost R k X) := rfl
    rw [e]
    generalize itx wob lost R k X = Y at *
    refine ⟨wf_sample i1 (by omega), xsample_le i2, ?_⟩
    rw [xsample_0, one_add (by omega) i1.1.1, i3]
    omega
/-- a sample of the trial head -/
theorem c_trial {x : ee_W} (hd : 8 ≤ d) (h1 : CZ w Z) (h3 : WZ Z) (hc : chg (smrg 222) w x) (hX : CH x 222 X) (hn : X.2.1 ≤ 25) (h0 : 0 ≤ (X.1 0).toInt) : ∃ w', ee_run ee_B P d 80 [.ref 0, .ref 222] x = some ([], w') ∧ CH w' 222 (xsample Z.1.2.2.1 (Z.1.2.2.2.1 0) (rul Z) X) ∧ chg (smrg 222) w w' := by
  have f : ∀ c, c < 222 → smrg 222 c = false := fun c h => smrg_f (by omega) (by omega)
  obtain ⟨c1, c2, c3, c4, -⟩ := h1.1.2.2.2.1
  have hR : RL x (rul Z) := by
    obtain ⟨n, r1, r2, r3⟩ := RL_of h1 h3
    refine ⟨n, r1, (hc.1 _ _ (f _ (by omega))).trans r2, ?_⟩
    rw [hc.1 1 5 (f _ (by omega))]
    rcases r3 with ⟨i, T, q1, q2, q3, q4⟩ | r3
    · exact Or.inl ⟨i, T, q1, q2, q3, CT_chg q4 hc (fun c q5 q6 => f c (by omega))⟩
    · exact Or.inr r3
  obtain ⟨w2, m1, m2, m3⟩ := c_sample (P := P) (d := d) hd hd_222 (by omega) hX hn h0 hR (wob := Z.1.2.2.1) (lost := Z.1.2.2.2.1 0) (fun k hk => (hc.1 _ _ (f _ (by omega))).trans (c1 k hk)) ((hc.1 _ _ (f _ (by omega))).trans c2)
  exact ⟨w2, m1, m2, chg_trans hc m3⟩
theorem smrg_lo : ∀ c, plo c = false → smrg 222 c = false := fun c h => by
  have := plo_f.1 h
  unfold smrg mrg
  rw [rgo_f, rg_f]
  exact ⟨hrg_ne (by omega), by omega⟩
theorem CZ_trial {w' : ee_W} (hZ : CZ w Z) (hc : chg (smrg 222) w w') : CZ w' Z := by
  have f : ∀ c, c < 222 ∨ c = 225 ∨ 231 ≤ c → smrg 222 c = false := fun c h => by
    unfold smrg mrg
    rw [rgo_f, rg_f]
    exact ⟨hrg_ne (by omega), by omega⟩
  exact CZ_rest hZ hc (f _ (by omega)) (f _ (by omega)) (f _ (by omega)) (fun c q1 q2 => f c (by omega)) (CA_chg hZ.1 hc (fun c q1 q2 => f c (by omega))) (CA_chg hZ.2.1 hc (fun c q1 q2 => f c (by omega))) (Nat.le_refl _)
theorem mz_as : es_rf 236 24 = some 245 := by decide +kernel
theorem mz_ass : es_sh 245 = (0, 18) := by decide +kernel
def pas (c k : Nat) : Prop := c = 245 ∨ (c = 236 ∧ k = 23)
theorem m_aside (hd : 1 ≤ d) : ∃ w', ee_run ee_B P d 282 [.ref 236] w = some ([], w') ∧ (∀ k, k < 18 → w'.1 245 k = w.1 237 (5 + k)) ∧ w'.1 236 23 = 0 ∧ chk pas w w' := by
  obtain ⟨d, rfl⟩ : ∃ k, d = k + 1 := ⟨d - 1, by omega⟩
  obtain ⟨w1, n1, n2, n3⟩ := cp_loop (w := w) (x := ee_ev es_sh es_rf (ee_run ee_B P d) lx_282_1) (b := ee_evS es_sh es_rf (ee_run ee_B P d) lb_282_1)
    (fun k => [some (.ref 236), some (.int (Int32.ofNat k))]) 18 237 245 0 5 (by omega)
    (by
      intro k w' hk _
      have h9 : Int32.ofNat k < 18 := (j_lt (b := 18) (by omega) (by omega)).2 hk
      have e5 : (5 : Int32) + Int32.ofNat k = Int32.ofNat (5 + k) := j_a 5 k
      have x1 : ee_ix (Int32.ofNat (5 + k)) 1369 = true := by rw [ixn (by omega)]; exact decide_eq_true (by omega)
      have x2 : ee_ix (Int32.ofNat k) 18 = true := by rw [ixn (by omega)]; exact decide_eq_true (by omega)
      simp only [h9, e5, x1, x2, tnc (show 5 + k < 2147483648 by omega), tnc (show k < 2147483648 by omega), mz_as, mz_ass, Nat.zero_add, lx_282_1, lb_282_1, ee_turn, k_0, k_18, k_5, nz_18, nz_5, v_bin, v_cmp, v_get, v_idx, v_int, v_loc, w_inc, w_put, w_retv, w_seq, w_set, w_sto, List.getElem?_cons_zero, List.getElem?_cons_succ, List.set_cons_zero, List.set_cons_succ, ee_cmp0, ee_cmp1, ee_cmp2, ee_cmp3, ee_cmp4, ee_cmp5, ee_cmpL0, ee_cmpL1, ee_cmpL2, ee_cmpL3, ee_cmpL4, ee_cmpL5, ee_tru_eb, decide_eq_true_eq, ib_i, ie_b, ie_f, ie_t, ib_l, fin_i, fin_l, fin_v, fin_z, fin_a, fin_n, ee_b_0, ee_fld0, ee_fld1, ee_fld2, ee_fld3, bi_0, bi_1, bi_2, bi_3, bi_4, bi_5, bi_6, bi_7, bi_8, bi_9, bi_10, bl_20, bl_21, bl_22, bl_23, bl_24, bl_25, bl_26, bl_48, bl_49, un_0, un_1, un_2, un_3, if_true, if_false, ite_true, ite_false, Bool.false_eq_true, Bool.not_eq_false, decide_not, Bool.not_not, reduceCtorEq, st_i, st_l, st_r, st_n, ee_noL, ee_noL.eq_1, List.length_cons, List.length_nil, Nat.reduceAdd, Nat.reduceLT, Nat.zero_add, and_true, true_and, and_self, fin_ite, pu_0, pu_1, pu_3, sto_0, el_0, Bool.not_eq_true, decide_eq_false_iff_not, Bool.decide_eq_true, Bool.decide_eq_false, decide_true, decide_false, Bool.not_true, Bool.not_false, Bool.and_self, Bool.and_true, Bool.and_false, Bool.true_and, Bool.false_and, Bool.or_true, Bool.or_false, Bool.true_or, Bool.false_or, if_true, if_false, Bool.false_eq_true, tc_0, ix_0, tc_18, ix_18, tc_5, ix_5, mz_0, mz_1, mz_a, rvs, j_s, j_a, wI_at, Nat.reduceEqDiff, zero_ne_one_n, one_ne_zero_n])
    (by
      intro w' _
      have h9 : ¬ (18 : Int32) < 18 := by decide
      simp only [h9, lx_282_1, lb_282_1, ee_turn, k_0, k_18, k_5, nz_18, nz_5, v_bin, v_cmp, v_get, v_idx, v_int, v_loc, w_inc, w_put, w_retv, w_seq, w_set, w_sto, List.getElem?_cons_zero, List.getElem?_cons_succ, List.set_cons_zero, List.set_cons_succ, ee_cmp0, ee_cmp1, ee_cmp2, ee_cmp3, ee_cmp4, ee_cmp5, ee_cmpL0, ee_cmpL1, ee_cmpL2, ee_cmpL3, ee_cmpL4, ee_cmpL5, ee_tru_eb, decide_eq_true_eq, ib_i, ie_b, ie_f, ie_t, ib_l, fin_i, fin_l, fin_v, fin_z, fin_a, fin_n, ee_b_0, ee_fld0, ee_fld1, ee_fld2, ee_fld3, bi_0, bi_1, bi_2, bi_3, bi_4, bi_5, bi_6, bi_7, bi_8, bi_9, bi_10, bl_20, bl_21, bl_22, bl_23, bl_24, bl_25, bl_26, bl_48, bl_49, un_0, un_1, un_2, un_3, if_true, if_false, ite_true, ite_false, Bool.false_eq_true, Bool.not_eq_false, decide_not, Bool.not_not, reduceCtorEq, st_i, st_l, st_r, st_n, ee_noL, ee_noL.eq_1, List.length_cons, List.length_nil, Nat.reduceAdd, Nat.reduceLT, Nat.zero_add, and_true, true_and, and_self, fin_ite, pu_0, pu_1, pu_3, sto_0, el_0, Bool.not_eq_true, decide_eq_false_iff_not, Bool.decide_eq_true, Bool.decide_eq_false, decide_true, decide_false, Bool.not_true, Bool.not_false, Bool.and_self, Bool.and_true, Bool.and_false, Bool.true_and, Bool.false_and, Bool.or_true, Bool.or_false, Bool.true_or, Bool.false_or, if_true, if_false, Bool.false_eq_true])
  rw [k_0] at n1
  refine ⟨ee_wI w1 236 23 0, ?_, fun k hk => ?_, ?_, ?_⟩
  · rw [rn_282 mz_0]
    have p : ∀ w : ee_W, ee_put w 236 23 3 (.int 0) = some (ee_wI w 236 23 0) := fun w => rfl
    simp only [w_while, n1, p, be_282, k_0, k_18, k_5, nz_18, nz_5, v_bin, v_cmp, v_get, v_idx, v_int, v_loc, w_inc, w_put, w_retv, w_seq, w_set, w_sto, List.getElem?_cons_zero, List.getElem?_cons_succ, List.set_cons_zero, List.set_cons_succ, ee_cmp0, ee_cmp1, ee_cmp2, ee_cmp3, ee_cmp4, ee_cmp5, ee_cmpL0, ee_cmpL1, ee_cmpL2, ee_cmpL3, ee_cmpL4, ee_cmpL5, ee_tru_eb, decide_eq_true_eq, ib_i, ie_b, ie_f, ie_t, ib_l, fin_i, fin_l, fin_v, fin_z, fin_a, fin_n, ee_b_0, ee_fld0, ee_fld1, ee_fld2, ee_fld3, bi_0, bi_1, bi_2, bi_3, bi_4, bi_5, bi_6, bi_7, bi_8, bi_9, bi_10, bl_20, bl_21, bl_22, bl_23, bl_24, bl_25, bl_26, bl_48, bl_49, un_0, un_1, un_2, un_3, if_true, if_false, ite_true, ite_false, Bool.false_eq_true, Bool.not_eq_false, decide_not, Bool.not_not, reduceCtorEq, st_i, st_l, st_r, st_n, ee_noL, ee_noL.eq_1, List.length_cons, List.length_nil, Nat.reduceAdd, Nat.reduceLT, Nat.zero_add, and_true, true_and, and_self, fin_ite, pu_0, pu_1, pu_3, sto_0, el_0, Bool.not_eq_true, decide_eq_false_iff_not, Bool.decide_eq_true, Bool.decide_eq_false, decide_true, decide_false, Bool.not_true, Bool.not_false, Bool.and_self, Bool.and_true, Bool.and_false, Bool.true_and, Bool.false_and, Bool.or_true, Bool.or_false, Bool.true_or, Bool.false_or, if_true, if_false, Bool.false_eq_true, ix_0, ix_18, ix_5, tc_0, tc_18, tc_5, mz_0, mz_1, mz_a, rvs, j_s, j_a, wI_at, Nat.reduceEqDiff, zero_ne_one_n, one_ne_zero_n]
  · have := n2 k hk
    rw [Nat.zero_add] at this
    rw [wI_at, if_neg (by omega)]; exact this
  · rw [wI_at, if_pos ⟨rfl, rfl⟩]
  · exact chk_I (Or.inr ⟨rfl, rfl⟩) (chk_mono n3 (fun c k h => Or.inl h.1))
def pbk (c k : Nat) : Prop := (c = 237 ∧ 5 ≤ k ∧ k < 23) ∨ (c = 236 ∧ k = 23)
theorem m_bring (hd : 1 ≤ d) : ∃ w', ee_run ee_B P d 283 [.ref 236] w = some ([], w') ∧ (∀ k, k < 18 → w'.1 237 (5 + k) = w.1 245 k) ∧ w'.1 236 23 = 1 ∧ chk pbk w w' := by
  obtain ⟨d, rfl⟩ : ∃ k, d = k + 1 := ⟨d - 1, by omega⟩
  obtain ⟨w1, n1, n2, n3⟩ := cp_loop (w := w) (x := ee_ev es_sh es_rf (ee_run ee_B P d) lx_283_1) (b := ee_evS es_sh es_rf (ee_run ee_B P d) lb_283_1)
    (fun k => [some (.ref 236), some (.int (Int32.ofNat k))]) 18 245 237 5 0 (by omega)
    (by
      intro k w' hk _
      have h9 : Int32.ofNat k < 18 := (j_lt (b := 18) (by omega) (by omega)).2 hk
      have e5 : (5 : Int32) + Int32.ofNat k = Int32.ofNat (5 + k) := j_a 5 k
      have x1 : ee_ix (Int32.ofNat (5 + k)) 1369 = true := by rw [ixn (by omega)]; exact decide_eq_true (by omega)
      have x2 : ee_ix (Int32.ofNat k) 18 = true := by rw [ixn (by omega)]; exact decide_eq_true (by omega)
      simp only [h9, e5, x1, x2, tnc (show 5 + k < 2147483648 by omega), tnc (show k < 2147483648 by omega), mz_as, mz_ass, Nat.zero_add, lx_283_1, lb_283_1, ee_turn, k_0, k_1, k_18, k_5, nz_1, nz_18, nz_5, v_bin, v_cmp, v_get, v_idx, v_int, v_loc, w_inc, w_put, w_retv, w_seq, w_set, w_sto, List.getElem?_cons_zero, List.getElem?_cons_succ, List.set_cons_zero, List.set_cons_succ, ee_cmp0, ee_cmp1, ee_cmp2, ee_cmp3, ee_cmp4, ee_cmp5, ee_cmpL0, ee_cmpL1, ee_cmpL2, ee_cmpL3, ee_cmpL4, ee_cmpL5, ee_tru_eb, decide_eq_true_eq, ib_i, ie_b, ie_f, ie_t, ib_l, fin_i, fin_l, fin_v, fin_z, fin_a, fin_n, ee_b_0, ee_fld0, ee_fld1, ee_fld2, ee_fld3, bi_0, bi_1, bi_2, bi_3, bi_4, bi_5, bi_6, bi_7, bi_8, bi_9, bi_10, bl_20, bl_21, bl_22, bl_23, bl_24, bl_25, bl_26, bl_48, bl_49, un_0, un_1, un_2, un_3, if_true, if_false, ite_true, ite_false, Bool.false_eq_true, Bool.not_eq_false, decide_not, Bool.not_not, reduceCtorEq, st_i, st_l, st_r, st_n, ee_noL, ee_noL.eq_1, List.length_cons, List.length_nil, Nat.reduceAdd, Nat.reduceLT, Nat.zero_add, and_true, true_and, and_self, fin_ite, pu_0, pu_1, pu_3, sto_0, el_0, Bool.not_eq_true, decide_eq_false_iff_not, Bool.decide_eq_true, Bool.decide_eq_false, decide_true, decide_false, Bool.not_true, Bool.not_false, Bool.and_self, Bool.and_true, Bool.and_false, Bool.true_and, Bool.false_and, Bool.or_true, Bool.or_false, Bool.true_or, Bool.false_or, if_true, if_false, Bool.false_eq_true, tc_0, ix_0, tc_1, ix_1, tc_18, ix_18, tc_5, ix_5, mz_0, mz_1, mz_a, rvs, j_s, j_a, wI_at, Nat.reduceEqDiff, zero_ne_one_n, one_ne_zero_n])
    (by
      intro w' _
      have h9 : ¬ (18 : Int32) < 18 := by decide
      simp only [h9, lx_283_1, lb_283_1, ee_turn, k_0, k_1, k_18, k_5, nz_1, nz_18, nz_5, v_bin, v_cmp, v_get, v_idx, v_int, v_loc, w_inc, w_put, w_retv, w_seq, w_set, w_sto, List.getElem?_cons_zero, List.getElem?_cons_succ, List.set_cons_zero, List.set_cons_succ, ee_cmp0, ee_cmp1, ee_cmp2, ee_cmp3, ee_cmp4, ee_cmp5, ee_cmpL0, ee_cmpL1, ee_cmpL2, ee_cmpL3, ee_cmpL4, ee_cmpL5, ee_tru_eb, decide_eq_true_eq, ib_i, ie_b, ie_f, ie_t, ib_l, fin_i, fin_l, fin_v, fin_z, fin_a, fin_n, ee_b_0, ee_fld0, ee_fld1, ee_fld2, ee_fld3, bi_0, bi_1, bi_2, bi_3, bi_4, bi_5, bi_6, bi_7, bi_8, bi_9, bi_10, bl_20, bl_21, bl_22, bl_23, bl_24, bl_25, bl_26, bl_48, bl_49, un_0, un_1, un_2, un_3, if_true, if_false, ite_true, ite_false, Bool.false_eq_true, Bool.not_eq_false, decide_not, Bool.not_not, reduceCtorEq, st_i, st_l, st_r, st_n, ee_noL, ee_noL.eq_1, List.length_cons, List.length_nil, Nat.reduceAdd, Nat.reduceLT, Nat.zero_add, and_true, true_and, and_self, fin_ite, pu_0, pu_1, pu_3, sto_0, el_0, Bool.not_eq_true, decide_eq_false_iff_not, Bool.decide_eq_true, Bool.decide_eq_false, decide_true, decide_false, Bool.not_true, Bool.not_false, Bool.and_self, Bool.and_true, Bool.and_false, Bool.true_and, Bool.false_and, Bool.or_true, Bool.or_false, Bool.true_or, Bool.false_or, if_true, if_false, Bool.false_eq_true])
  rw [k_0] at n1
  refine ⟨ee_wI w1 236 23 1, ?_, fun k hk => ?_, ?_, ?_⟩
  · rw [rn_283 mz_0]
    have p : ∀ w : ee_W, ee_put w 236 23 3 (.int 1) = some (ee_wI w 236 23 1) := fun w => rfl
    simp only [w_while, n1, p, be_283, k_0, k_1, k_18, k_5, nz_1, nz_18, nz_5, v_bin, v_cmp, v_get, v_idx, v_int, v_loc, w_inc, w_put, w_retv, w_seq, w_set, w_sto, List.getElem?_cons_zero, List.getElem?_cons_succ, List.set_cons_zero, List.set_cons_succ, ee_cmp0, ee_cmp1, ee_cmp2, ee_cmp3, ee_cmp4, ee_cmp5, ee_cmpL0, ee_cmpL1, ee_cmpL2, ee_cmpL3, ee_cmpL4, ee_cmpL5, ee_tru_eb, decide_eq_true_eq, ib_i, ie_b, ie_f, ie_t, ib_l, fin_i, fin_l, fin_v, fin_z, fin_a, fin_n, ee_b_0, ee_fld0, ee_fld1, ee_fld2, ee_fld3, bi_0, bi_1, bi_2, bi_3, bi_4, bi_5, bi_6, bi_7, bi_8, bi_9, bi_10, bl_20, bl_21, bl_22, bl_23, bl_24, bl_25, bl_26, bl_48, bl_49, un_0, un_1, un_2, un_3, if_true, if_false, ite_true, ite_false, Bool.false_eq_true, Bool.not_eq_false, decide_not, Bool.not_not, reduceCtorEq, st_i, st_l, st_r, st_n, ee_noL, ee_noL.eq_1, List.length_cons, List.length_nil, Nat.reduceAdd, Nat.reduceLT, Nat.zero_add, and_true, true_and, and_self, fin_ite, pu_0, pu_1, pu_3, sto_0, el_0, Bool.not_eq_true, decide_eq_false_iff_not, Bool.decide_eq_true, Bool.decide_eq_false, decide_true, decide_false, Bool.not_true, Bool.not_false, Bool.and_self, Bool.and_true, Bool.and_false, Bool.true_and, Bool.false_and, Bool.or_true, Bool.or_false, Bool.true_or, Bool.false_or, if_true, if_false, Bool.false_eq_true, ix_0, ix_1, ix_18, ix_5, tc_0, tc_1, tc_18, tc_5, mz_0, mz_1, mz_a, rvs, j_s, j_a, wI_at, Nat.reduceEqDiff, zero_ne_one_n, one_ne_zero_n]
  · have := n2 k hk
    rw [Nat.zero_add] at this
    rw [wI_at, if_neg (by omega)]; exact this
  · rw [wI_at, if_pos ⟨rfl, rfl⟩]
  · exact chk_I (Or.inr ⟨rfl, rfl⟩) (chk_mono n3 (fun c k h => Or.inl ⟨h.1, h.2.1, by have := h.2.2; omega⟩))
/-- what a trial of the reference may change -/
def ptr (c k : Nat) : Prop := (c = 237 ∧ 5 ≤ k ∧ k < 23) ∨ c = 242 ∨ c = 244
theorem psm_ptr : ∀ c k, psm false c k → ptr c k := fun c k h => by
  unfold ptr
  rcases h with h | h
  · rcases h with h | h
    · omega
    · exact absurd h.1 (by decide)
  · unfold plw at h; omega
/-- the trial of the reference, from aside to back: all is as it was -/
theorem m_backd {w1 w2 w3 : ee_W} (hM : MZ w Z) (hW : WZ Z) (a1 : ∀ k, k < 18 → w1.1 245 k = w.1 237 (5 + k)) (a2 : chk pas w w1) (b : chk ptr w1 w2) (c1 : ∀ k, k < 18 → w3.1 237 (5 + k) = w2.1 245 k) (c2 : w3.1 236 23 = 1) (c3 : chk pbk w2 w3) : MZ w3 Z ∧ w3.2.2 = w.2.2 ∧ ∀ c k, ¬ (236 ≤ c) → w3.1 c k = w.1 c k := by
  have g : ∀ c k, c ≠ 237 → c ≠ 242 → c ≠ 244 → c ≠ 245 → ¬ (c = 236 ∧ k = 23) → w3.1 c k = w.1 c k := fun c k g1 g2 g3 g4 g5 => by
    rw [c3.1 _ _ (by unfold pbk; omega), b.1 _ _ (by unfold ptr; omega), a2.1 _ _ (by unfold pas; omega)]
  have r : ∀ k, w3.1 237 k = w.1 237 k := by
    intro k
    by_cases q : 5 ≤ k ∧ k < 23
    · have := c1 (k - 5) (by omega)
      rw [show 5 + (k - 5) = k by omega] at this
      rw [this, b.1 _ _ (by unfold ptr; omega)]
      have := a1 (k - 5) (by omega)
      rw [show 5 + (k - 5) = k by omega] at this
      exact this
    · rw [c3.1 _ _ (by unfold pbk; omega), b.1 _ _ (by unfold ptr; omega), a2.1 _ _ (by unfold pas; omega)]
  obtain ⟨m1, m2, m3, ⟨m4, m5⟩, ⟨m6, m7⟩, m8⟩ := hM
  refine ⟨⟨MA_eq m1 hW.1 (fun k _ => r k), MA_eq m2 hW.2.1 (fun k _ => g _ _ (by omega) (by omega) (by omega) (by omega) (by omega)), fun i hi h4 => MT_eq (m3 i hi h4) (fun k => g _ _ (by omega) (by omega) (by omega) (by omega) (by omega)), ⟨(g _ _ (by omega) (by omega) (by omega) (by omega) (by omega)).trans m4, fun i hi => (g _ _ (by omega) (by omega) (by omega) (by omega) (by omega)).trans (m5 i hi)⟩, ⟨(g _ _ (by omega) (by omega) (by omega) (by omega) (by omega)).trans m6, (g _ _ (by omega) (by omega) (by omega) (by omega) (by omega)).trans m7⟩, c2⟩, c3.2.trans (b.2.trans a2.2), fun c k h => g c k (by omega) (by omega) (by omega) (by omega) (by omega)⟩
/-- a sample of the reference's trial -/
theorem m_trial {w1 x : ee_W} (hd : 10 ≤ d) (hM : MZ w Z) (hW : WZ Z) (a2 : chk pas w w1) (b : chk ptr w1 x) (hX : MHz false x X) (hwf : wfS X.1) : ∃ w', ee_run ee_B P d 247 [.ref 236] x = some ([], w') ∧ MHz false w' (xsample Z.1.2.2.1 (Z.1.2.2.2.1 0) (rul Z) X) ∧ chk ptr w1 w' := by
  have g : ∀ c k, c = 239 ∨ (c = 237 ∧ (k < 5 ∨ 23 ≤ k)) → x.1 c k = w.1 c k := fun c k h => by
    rw [b.1 _ _ (by unfold ptr; omega), a2.1 _ _ (by unfold pas; omega)]
  have hR : RMi x (x.1 237 1) (rul Z) := by
    rw [g 237 1 (by omega)]
    exact RMi_eq (RM_of hM hW) (fun j => g _ _ (by omega))
  obtain ⟨w', m1, m2, m3⟩ := m_sample (P := P) hd hX hwf hR (wob := Z.1.2.2.1) (lost := Z.1.2.2.2.1 0) (fun k hk => (g _ _ (by omega)).trans (hM.1.2.2.2.1 k hk)) ((g _ _ (by omega)).trans hM.1.2.2.2.2.1)
  exact ⟨w', m1, m2, chk_trans b (chk_mono m3 psm_ptr)⟩
end BF
