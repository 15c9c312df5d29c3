/-! sectors on both sides -/
section BJ
variable {P : Nat → Nat → List Value → ee_W → Option (List Value × ee_W)} {d : Nat} {w : ee_W} {Z : ZX}
theorem for_q {x : ee_S} {b : ee_Z} (emb : Nat → ee_E) (n : Nat) (hturn : ∀ k, k < n → ee_turn x b (emb k, w) = some (.inl (emb (k + 1), w))) (hend : ee_turn x b (emb n, w) = some (.inr (.inl (emb n, w)))) : ee_wh (ee_turn x b) (emb 0, w) = some (.inl (emb n, w)) := by
  have key : ∀ m k, m = n - k → k ≤ n → ee_wh (ee_turn x b) (emb k, w) = some (.inl (emb n, w)) := by
    intro m
    induction m with
    | zero =>
      intro k hm hk
      have : k = n := by omega
      rw [this, ee_wh_eq, hend]
    | succ m ih =>
      intro k hm hk
      rw [ee_wh_eq, hturn k (by omega)]
      exact ih (k + 1) (by omega) (by omega)
  exact key n 0 (by omega) (Nat.zero_le _)
def lf (Z : ZX) (k : Nat) : Int32 := Z.1.2.2.1 k - Z.1.1.1 (10 + k)
def lsb (Z : ZX) (k : Nat) : Bool := isl (Z.1.2.2.2.1 0) (Int32.ofNat k)
theorem c_leftOf (hd : 3 ≤ d) (h1 : CZ w Z) {k : Nat} (hk : k < 8) : ee_run ee_B P d 163 [.ref 0, .int (Int32.ofNat k)] w = some ([.int (lf Z k)], w) := by
  obtain ⟨d, rfl⟩ : ∃ k, d = k + 1 := ⟨d - 1, by omega⟩
  have hd2 : 2 ≤ d := by omega
  have w1 := c_wobbleOf (P := P) (w := w) hd2 (wob := Z.1.2.2.1) h1.1.2.2.2.1.1 (Int32.ofNat k)
  have w2 : xwob Z.1.2.2.1 (Int32.ofNat k) = Z.1.2.2.1 k := by unfold xwob; rw [if_pos (in07_n hk), tnc (by omega)]
  rw [w2] at w1
  have l1 := c_learntOf (P := P) (w := w) hd2 hd2_ok h1.1.1 (Int32.ofNat k)
  have l2 : xlearnt Z.1.1 (Int32.ofNat k) = Z.1.1.1 (10 + k) := by unfold xlearnt; rw [if_pos (in07_n hk), tnc (by omega)]
  rw [l2] at l1
  rw [rn_163 cz_0]
  simp only [w1, l1, lf, cz_0, cz_r0, al_1.1, al_1.2.1, rvs, bd_163, v_bin, v_call, v_cons, v_get, v_loc, v_nil, w_ret, List.getElem?_cons_zero, List.getElem?_cons_succ, List.set_cons_zero, List.set_cons_succ, ee_cmp0, ee_cmp1, ee_cmp2, ee_cmp3, ee_cmp4, ee_cmp5, ee_cmpL0, ee_cmpL1, ee_cmpL2, ee_cmpL3, ee_cmpL4, ee_cmpL5, ee_tru_eb, decide_eq_true_eq, ib_i, ie_b, ie_f, ie_t, ib_l, fin_i, fin_l, fin_v, fin_z, fin_a, fin_n, ee_b_0, ee_fld0, ee_fld1, ee_fld2, ee_fld3, bi_0, bi_1, bi_2, bi_3, bi_4, bi_5, bi_6, bi_7, bi_8, bi_9, bi_10, bl_20, bl_21, bl_22, bl_23, bl_24, bl_25, bl_26, bl_48, bl_49, un_0, un_1, un_2, un_3, if_true, if_false, ite_true, ite_false, Bool.false_eq_true, Bool.not_eq_false, decide_not, Bool.not_not, reduceCtorEq, st_i, st_l, st_r, st_n, ee_noL, ee_noL.eq_1, List.length_cons, List.length_nil, Nat.reduceAdd, Nat.reduceLT, Nat.zero_add, and_true, true_and, and_self, fin_ite, pu_0, pu_1, pu_3, sto_0, el_0, Bool.not_eq_true, decide_eq_false_iff_not, Bool.decide_eq_true, Bool.decide_eq_false, decide_true, decide_false, Bool.not_true, Bool.not_false, Bool.and_self, Bool.and_true, Bool.and_false, Bool.true_and, Bool.false_and, Bool.or_true, Bool.or_false, Bool.true_or, Bool.false_or, if_true, if_false, Bool.false_eq_true]
theorem m_leftOf (hd : 1 ≤ d) (hM : MZ w Z) {k : Nat} (hk : k < 8) : ee_run ee_B P d 331 [.ref 236, .int (Int32.ofNat k)] w = some ([.int (lf Z k)], w) := by
  obtain ⟨d, rfl⟩ : ∃ k, d = k + 1 := ⟨d - 1, by omega⟩
  have mw := hM.1.2.2.2.1 _ hk
  have ml := hM.1.2.1.1 (10 + k) (by omega) (by omega)
  rw [show 5 + (10 + k) = 15 + k by omega] at ml
  have a23 : (23 : Int32) + Int32.ofNat k = Int32.ofNat (23 + k) := j_a 23 k
  have a15 : (15 : Int32) + Int32.ofNat k = Int32.ofNat (15 + k) := j_a 15 k
  have x23 : ee_ix (Int32.ofNat (23 + k)) 1369 = true := by rw [ixn (by omega)]; exact decide_eq_true (by omega)
  have x15 : ee_ix (Int32.ofNat (15 + k)) 1369 = true := by rw [ixn (by omega)]; exact decide_eq_true (by omega)
  rw [rn_331 mz_0]
  simp only [a23, a15, x23, x15, tnc (show 23 + k < 2147483648 by omega), tnc (show 15 + k < 2147483648 by omega), mw, ml, lf, bd_331, k_15, k_23, nz_15, nz_23, v_bin, v_get, v_idx, v_int, v_loc, w_ret, List.getElem?_cons_zero, List.getElem?_cons_succ, List.set_cons_zero, List.set_cons_succ, ee_cmp0, ee_cmp1, ee_cmp2, ee_cmp3, ee_cmp4, ee_cmp5, ee_cmpL0, ee_cmpL1, ee_cmpL2, ee_cmpL3, ee_cmpL4, ee_cmpL5, ee_tru_eb, decide_eq_true_eq, ib_i, ie_b, ie_f, ie_t, ib_l, fin_i, fin_l, fin_v, fin_z, fin_a, fin_n, ee_b_0, ee_fld0, ee_fld1, ee_fld2, ee_fld3, bi_0, bi_1, bi_2, bi_3, bi_4, bi_5, bi_6, bi_7, bi_8, bi_9, bi_10, bl_20, bl_21, bl_22, bl_23, bl_24, bl_25, bl_26, bl_48, bl_49, un_0, un_1, un_2, un_3, if_true, if_false, ite_true, ite_false, Bool.false_eq_true, Bool.not_eq_false, decide_not, Bool.not_not, reduceCtorEq, st_i, st_l, st_r, st_n, ee_noL, ee_noL.eq_1, List.length_cons, List.length_nil, Nat.reduceAdd, Nat.reduceLT, Nat.zero_add, and_true, true_and, and_self, fin_ite, pu_0, pu_1, pu_3, sto_0, el_0, Bool.not_eq_true, decide_eq_false_iff_not, Bool.decide_eq_true, Bool.decide_eq_false, decide_true, decide_false, Bool.not_true, Bool.not_false, Bool.and_self, Bool.and_true, Bool.and_false, Bool.true_and, Bool.false_and, Bool.or_true, Bool.or_false, Bool.true_or, Bool.false_or, if_true, if_false, Bool.false_eq_true, ix_15, ix_23, tc_15, tc_23, mz_0, mz_1, mz_a, rvs, j_s, j_a, wI_at, Nat.reduceEqDiff, zero_ne_one_n, one_ne_zero_n]
theorem c_lostZ (hd : 1 ≤ d) (h1 : CZ w Z) (k : Nat) : ee_run ee_B P d 82 [.ref 0, .int (Int32.ofNat k)] w = some ([.int (ee_b (lsb Z k))], w) := c_isLost hd h1.1.2.2.2.1.2.1 _
theorem m_lostZ (hd : 2 ≤ d) (hM : MZ w Z) (k : Nat) : ee_run ee_B P d 248 [.ref 236, .int (Int32.ofNat k)] w = some ([.int (ee_b (lsb Z k))], w) := m_isLost hd hM.1.2.2.2.2.1 _
def sy (Z : ZX) (k : Nat) : Bool := !lsb Z k && inS (lf Z k) (-3) 3
theorem c_isSteady (hd : 4 ≤ d) (h1 : CZ w Z) {k : Nat} (hk : k < 8) : ee_run ee_B P d 162 [.ref 0, .int (Int32.ofNat k)] w = some ([.int (ee_b (sy Z k))], w) := by
  obtain ⟨d, rfl⟩ : ∃ k, d = k + 1 := ⟨d - 1, by omega⟩
  have hd1 : 1 ≤ d := by omega
  have hd3 : 3 ≤ d := by omega
  have l := c_lostZ (P := P) hd1 h1 k
  have e := c_leftOf (P := P) hd3 h1 hk
  have i1 : (decide (-3 ≤ lf Z k) && decide (lf Z k ≤ 3)) = inS (lf Z k) (-3) 3 := rfl
  rw [rn_162 cz_0]
  cases a : lsb Z k <;> rw [a] at l <;> cases b : inS (lf Z k) (-3) 3 <;> simp only [l, e, r_within hd1, i1, sy, a, b, bd_162, k_3, k_4294967293, nz_3, v_and, v_call, v_cons, v_int, v_loc, v_mat, v_nil, v_not, v_z, w_ret, List.getElem?_cons_zero, List.getElem?_cons_succ, List.set_cons_zero, List.set_cons_succ, ee_cmp0, ee_cmp1, ee_cmp2, ee_cmp3, ee_cmp4, ee_cmp5, ee_cmpL0, ee_cmpL1, ee_cmpL2, ee_cmpL3, ee_cmpL4, ee_cmpL5, ee_tru_eb, decide_eq_true_eq, ib_i, ie_b, ie_f, ie_t, ib_l, fin_i, fin_l, fin_v, fin_z, fin_a, fin_n, ee_b_0, ee_fld0, ee_fld1, ee_fld2, ee_fld3, bi_0, bi_1, bi_2, bi_3, bi_4, bi_5, bi_6, bi_7, bi_8, bi_9, bi_10, bl_20, bl_21, bl_22, bl_23, bl_24, bl_25, bl_26, bl_48, bl_49, un_0, un_1, un_2, un_3, if_true, if_false, ite_true, ite_false, Bool.false_eq_true, Bool.not_eq_false, decide_not, Bool.not_not, reduceCtorEq, st_i, st_l, st_r, st_n, ee_noL, ee_noL.eq_1, List.length_cons, List.length_nil, Nat.reduceAdd, Nat.reduceLT, Nat.zero_add, and_true, true_and, and_self, fin_ite, pu_0, pu_1, pu_3, sto_0, el_0, Bool.not_eq_true, decide_eq_false_iff_not, Bool.decide_eq_true, Bool.decide_eq_false, decide_true, decide_false, Bool.not_true, Bool.not_false, Bool.and_self, Bool.and_true, Bool.and_false, Bool.true_and, Bool.false_and, Bool.or_true, Bool.or_false, Bool.true_or, Bool.false_or, if_true, if_false, Bool.false_eq_true]
def syb (Z : ZX) : Nat → Int32
  | 0 => 0
  | k + 1 => if sy Z k = true then syb Z k ||| (1 <<< (Int32.ofNat k &&& 31)) else syb Z k
theorem c_steady (hd : 5 ≤ d) (h1 : CZ w Z) : ee_run ee_B P d 161 [.ref 0] w = some ([.int (syb Z 8)], w) := by
  obtain ⟨d, rfl⟩ : ∃ k, d = k + 1 := ⟨d - 1, by omega⟩
  have hd4 : 4 ≤ d := by omega
  have hl := for_q (w := w) (x := ee_ev es_sh es_rf (ee_run ee_B P d) lx_161_1) (b := ee_evS es_sh es_rf (ee_run ee_B P d) lb_161_1)
    (fun k => [some (.ref 0), some (.int (syb Z k)), some (.int (Int32.ofNat k))]) 8
    (by
      intro k hk
      have h9 : Int32.ofNat k < 8 := (j_lt (b := 8) (by omega) (by omega)).2 hk
      have e := c_isSteady (P := P) hd4 h1 hk
      cases a : sy Z k <;> rw [a] at e <;> simp only [h9, e, a, syb, j_s, j_a, lx_161_1, lb_161_1, ee_turn, k_0, k_1, k_8, nz_1, nz_8, v_bin, v_call, v_cmp, v_cons, v_int, v_loc, v_nil, v_z, w_if, w_inc, w_ret, w_seq, w_set, w_skip, List.getElem?_cons_zero, List.getElem?_cons_succ, List.set_cons_zero, List.set_cons_succ, ee_cmp0, ee_cmp1, ee_cmp2, ee_cmp3, ee_cmp4, ee_cmp5, ee_cmpL0, ee_cmpL1, ee_cmpL2, ee_cmpL3, ee_cmpL4, ee_cmpL5, ee_tru_eb, decide_eq_true_eq, ib_i, ie_b, ie_f, ie_t, ib_l, fin_i, fin_l, fin_v, fin_z, fin_a, fin_n, ee_b_0, ee_fld0, ee_fld1, ee_fld2, ee_fld3, bi_0, bi_1, bi_2, bi_3, bi_4, bi_5, bi_6, bi_7, bi_8, bi_9, bi_10, bl_20, bl_21, bl_22, bl_23, bl_24, bl_25, bl_26, bl_48, bl_49, un_0, un_1, un_2, un_3, if_true, if_false, ite_true, ite_false, Bool.false_eq_true, Bool.not_eq_false, decide_not, Bool.not_not, reduceCtorEq, st_i, st_l, st_r, st_n, ee_noL, ee_noL.eq_1, List.length_cons, List.length_nil, Nat.reduceAdd, Nat.reduceLT, Nat.zero_add, and_true, true_and, and_self, fin_ite, pu_0, pu_1, pu_3, sto_0, el_0, Bool.not_eq_true, decide_eq_false_iff_not, Bool.decide_eq_true, Bool.decide_eq_false, decide_true, decide_false, Bool.not_true, Bool.not_false, Bool.and_self, Bool.and_true, Bool.and_false, Bool.true_and, Bool.false_and, Bool.or_true, Bool.or_false, Bool.true_or, Bool.false_or, if_true, if_false, Bool.false_eq_true])
    (by
      have h9 : ¬ (8 : Int32) < 8 := by decide
      simp only [h9, lx_161_1, lb_161_1, ee_turn, k_0, k_1, k_8, nz_1, nz_8, v_bin, v_call, v_cmp, v_cons, v_int, v_loc, v_nil, v_z, w_if, w_inc, w_ret, w_seq, w_set, w_skip, List.getElem?_cons_zero, List.getElem?_cons_succ, List.set_cons_zero, List.set_cons_succ, ee_cmp0, ee_cmp1, ee_cmp2, ee_cmp3, ee_cmp4, ee_cmp5, ee_cmpL0, ee_cmpL1, ee_cmpL2, ee_cmpL3, ee_cmpL4, ee_cmpL5, ee_tru_eb, decide_eq_true_eq, ib_i, ie_b, ie_f, ie_t, ib_l, fin_i, fin_l, fin_v, fin_z, fin_a, fin_n, ee_b_0, ee_fld0, ee_fld1, ee_fld2, ee_fld3, bi_0, bi_1, bi_2, bi_3, bi_4, bi_5, bi_6, bi_7, bi_8, bi_9, bi_10, bl_20, bl_21, bl_22, bl_23, bl_24, bl_25, bl_26, bl_48, bl_49, un_0, un_1, un_2, un_3, if_true, if_false, ite_true, ite_false, Bool.false_eq_true, Bool.not_eq_false, decide_not, Bool.not_not, reduceCtorEq, st_i, st_l, st_r, st_n, ee_noL, ee_noL.eq_1, List.length_cons, List.length_nil, Nat.reduceAdd, Nat.reduceLT, Nat.zero_add, and_true, true_and, and_self, fin_ite, pu_0, pu_1, pu_3, sto_0, el_0, Bool.not_eq_true, decide_eq_false_iff_not, Bool.decide_eq_true, Bool.decide_eq_false, decide_true, decide_false, Bool.not_true, Bool.not_false, Bool.and_self, Bool.and_true, Bool.and_false, Bool.true_and, Bool.false_and, Bool.or_true, Bool.or_false, Bool.true_or, Bool.false_or, if_true, if_false, Bool.false_eq_true])
  rw [k_0, show syb Z 0 = 0 from rfl] at hl
  rw [rn_161 cz_0]
  simp only [w_while, hl, be_161, k_0, k_1, k_8, nz_1, nz_8, v_bin, v_call, v_cmp, v_cons, v_int, v_loc, v_nil, v_z, w_if, w_inc, w_ret, w_seq, w_set, w_skip, List.getElem?_cons_zero, List.getElem?_cons_succ, List.set_cons_zero, List.set_cons_succ, ee_cmp0, ee_cmp1, ee_cmp2, ee_cmp3, ee_cmp4, ee_cmp5, ee_cmpL0, ee_cmpL1, ee_cmpL2, ee_cmpL3, ee_cmpL4, ee_cmpL5, ee_tru_eb, decide_eq_true_eq, ib_i, ie_b, ie_f, ie_t, ib_l, fin_i, fin_l, fin_v, fin_z, fin_a, fin_n, ee_b_0, ee_fld0, ee_fld1, ee_fld2, ee_fld3, bi_0, bi_1, bi_2, bi_3, bi_4, bi_5, bi_6, bi_7, bi_8, bi_9, bi_10, bl_20, bl_21, bl_22, bl_23, bl_24, bl_25, bl_26, bl_48, bl_49, un_0, un_1, un_2, un_3, if_true, if_false, ite_true, ite_false, Bool.false_eq_true, Bool.not_eq_false, decide_not, Bool.not_not, reduceCtorEq, st_i, st_l, st_r, st_n, ee_noL, ee_noL.eq_1, List.length_cons, List.length_nil, Nat.reduceAdd, Nat.reduceLT, Nat.zero_add, and_true, true_and, and_self, fin_ite, pu_0, pu_1, pu_3, sto_0, el_0, Bool.not_eq_true, decide_eq_false_iff_not, Bool.decide_eq_true, Bool.decide_eq_false, decide_true, decide_false, Bool.not_true, Bool.not_false, Bool.and_self, Bool.and_true, Bool.and_false, Bool.true_and, Bool.false_and, Bool.or_true, Bool.or_false, Bool.true_or, Bool.false_or, if_true, if_false, Bool.false_eq_true]
theorem m_steady (hd : 3 ≤ d) (hM : MZ w Z) : ee_run ee_B P d 330 [.ref 236] w = some ([.int (syb Z 8)], w) := by
  obtain ⟨d, rfl⟩ : ∃ k, d = k + 1 := ⟨d - 1, by omega⟩
  have hd1 : 1 ≤ d := by omega
  have hd2 : 2 ≤ d := by omega
  have hl := for_q (w := w) (x := ee_ev es_sh es_rf (ee_run ee_B P d) lx_330_1) (b := ee_evS es_sh es_rf (ee_run ee_B P d) lb_330_1)
    (fun k => [some (.ref 236), some (.int (syb Z k)), some (.int (Int32.ofNat k))]) 8
    (by
      intro k hk
      have h9 : Int32.ofNat k < 8 := (j_lt (b := 8) (by omega) (by omega)).2 hk
      have l := m_lostZ (P := P) hd2 hM k
      have e := m_leftOf (P := P) hd1 hM hk
      have i1 : (decide (-3 ≤ lf Z k) && decide (lf Z k ≤ 3)) = inS (lf Z k) (-3) 3 := rfl
      cases a : lsb Z k <;> rw [a] at l <;> cases b : inS (lf Z k) (-3) 3 <;> simp only [h9, l, e, r_isIn hd1, i1, sy, a, b, syb, Int32.or_zero, lx_330_1, lb_330_1, ee_turn, k_0, k_1, k_3, k_4294967293, k_8, nz_1, nz_3, nz_8, v_and, v_bin, v_call, v_cmp, v_cons, v_int, v_loc, v_nil, v_not, v_tern, v_z, w_inc, w_ret, w_seq, w_set, List.getElem?_cons_zero, List.getElem?_cons_succ, List.set_cons_zero, List.set_cons_succ, ee_cmp0, ee_cmp1, ee_cmp2, ee_cmp3, ee_cmp4, ee_cmp5, ee_cmpL0, ee_cmpL1, ee_cmpL2, ee_cmpL3, ee_cmpL4, ee_cmpL5, ee_tru_eb, decide_eq_true_eq, ib_i, ie_b, ie_f, ie_t, ib_l, fin_i, fin_l, fin_v, fin_z, fin_a, fin_n, ee_b_0, ee_fld0, ee_fld1, ee_fld2, ee_fld3, bi_0, bi_1, bi_2, bi_3, bi_4, bi_5, bi_6, bi_7, bi_8, bi_9, bi_10, bl_20, bl_21, bl_22, bl_23, bl_24, bl_25, bl_26, bl_48, bl_49, un_0, un_1, un_2, un_3, if_true, if_false, ite_true, ite_false, Bool.false_eq_true, Bool.not_eq_false, decide_not, Bool.not_not, reduceCtorEq, st_i, st_l, st_r, st_n, ee_noL, ee_noL.eq_1, List.length_cons, List.length_nil, Nat.reduceAdd, Nat.reduceLT, Nat.zero_add, and_true, true_and, and_self, fin_ite, pu_0, pu_1, pu_3, sto_0, el_0, Bool.not_eq_true, decide_eq_false_iff_not, Bool.decide_eq_true, Bool.decide_eq_false, decide_true, decide_false, Bool.not_true, Bool.not_false, Bool.and_self, Bool.and_true, Bool.and_false, Bool.true_and, Bool.false_and, Bool.or_true, Bool.or_false, Bool.true_or, Bool.false_or, if_true, if_false, Bool.false_eq_true, tc_0, ix_0, tc_1, ix_1, tc_3, ix_3, tc_8, ix_8, mz_0, mz_1, mz_a, rvs, j_s, j_a, wI_at, Nat.reduceEqDiff, zero_ne_one_n, one_ne_zero_n])
    (by
      have h9 : ¬ (8 : Int32) < 8 := by decide
      simp only [h9, lx_330_1, lb_330_1, ee_turn, k_0, k_1, k_3, k_4294967293, k_8, nz_1, nz_3, nz_8, v_and, v_bin, v_call, v_cmp, v_cons, v_int, v_loc, v_nil, v_not, v_tern, v_z, w_inc, w_ret, w_seq, w_set, List.getElem?_cons_zero, List.getElem?_cons_succ, List.set_cons_zero, List.set_cons_succ, ee_cmp0, ee_cmp1, ee_cmp2, ee_cmp3, ee_cmp4, ee_cmp5, ee_cmpL0, ee_cmpL1, ee_cmpL2, ee_cmpL3, ee_cmpL4, ee_cmpL5, ee_tru_eb, decide_eq_true_eq, ib_i, ie_b, ie_f, ie_t, ib_l, fin_i, fin_l, fin_v, fin_z, fin_a, fin_n, ee_b_0, ee_fld0, ee_fld1, ee_fld2, ee_fld3, bi_0, bi_1, bi_2, bi_3, bi_4, bi_5, bi_6, bi_7, bi_8, bi_9, bi_10, bl_20, bl_21, bl_22, bl_23, bl_24, bl_25, bl_26, bl_48, bl_49, un_0, un_1, un_2, un_3, if_true, if_false, ite_true, ite_false, Bool.false_eq_true, Bool.not_eq_false, decide_not, Bool.not_not, reduceCtorEq, st_i, st_l, st_r, st_n, ee_noL, ee_noL.eq_1, List.length_cons, List.length_nil, Nat.reduceAdd, Nat.reduceLT, Nat.zero_add, and_true, true_and, and_self, fin_ite, pu_0, pu_1, pu_3, sto_0, el_0, Bool.not_eq_true, decide_eq_false_iff_not, Bool.decide_eq_true, Bool.decide_eq_false, decide_true, decide_false, Bool.not_true, Bool.not_false, Bool.and_self, Bool.and_true, Bool.and_false, Bool.true_and, Bool.false_and, Bool.or_true, Bool.or_false, Bool.true_or, Bool.false_or, if_true, if_false, Bool.false_eq_true])
  rw [k_0, show syb Z 0 = 0 from rfl] at hl
  rw [rn_330 mz_0]
  simp only [w_while, hl, be_330, k_0, k_1, k_3, k_4294967293, k_8, nz_1, nz_3, nz_8, v_and, v_bin, v_call, v_cmp, v_cons, v_int, v_loc, v_nil, v_not, v_tern, v_z, w_inc, w_ret, w_seq, w_set, List.getElem?_cons_zero, List.getElem?_cons_succ, List.set_cons_zero, List.set_cons_succ, ee_cmp0, ee_cmp1, ee_cmp2, ee_cmp3, ee_cmp4, ee_cmp5, ee_cmpL0, ee_cmpL1, ee_cmpL2, ee_cmpL3, ee_cmpL4, ee_cmpL5, ee_tru_eb, decide_eq_true_eq, ib_i, ie_b, ie_f, ie_t, ib_l, fin_i, fin_l, fin_v, fin_z, fin_a, fin_n, ee_b_0, ee_fld0, ee_fld1, ee_fld2, ee_fld3, bi_0, bi_1, bi_2, bi_3, bi_4, bi_5, bi_6, bi_7, bi_8, bi_9, bi_10, bl_20, bl_21, bl_22, bl_23, bl_24, bl_25, bl_26, bl_48, bl_49, un_0, un_1, un_2, un_3, if_true, if_false, ite_true, ite_false, Bool.false_eq_true, Bool.not_eq_false, decide_not, Bool.not_not, reduceCtorEq, st_i, st_l, st_r, st_n, ee_noL, ee_noL.eq_1, List.length_cons, List.length_nil, Nat.reduceAdd, Nat.reduceLT, Nat.zero_add, and_true, true_and, and_self, fin_ite, pu_0, pu_1, pu_3, sto_0, el_0, Bool.not_eq_true, decide_eq_false_iff_not, Bool.decide_eq_true, Bool.decide_eq_false, decide_true, decide_false, Bool.not_true, Bool.not_false, Bool.and_self, Bool.and_true, Bool.and_false, Bool.true_and, Bool.false_and, Bool.or_true, Bool.or_false, Bool.true_or, Bool.false_or, if_true, if_false, Bool.false_eq_true, ix_0, ix_1, ix_3, ix_8, tc_0, tc_1, tc_3, tc_8, mz_0, mz_1, mz_a, rvs, j_s, j_a, wI_at, Nat.reduceEqDiff, zero_ne_one_n, one_ne_zero_n]
theorem b_steady (hd : 5 ≤ d) (hS : Sim w) : Both P d 161 330 [] w := by
  obtain ⟨Z, h1, h2, h3⟩ := hS
  exact both_q h1 h2 h3 (c_steady hd h1) (m_steady (by omega) h2)
def ab (x : Int32) : Int32 := if x < 0 then -x else x
theorem ab_0 (x : Int32) : (if x < 0 then 0 - x else x - 0) = ab x := by
  unfold ab
  rw [Int32.zero_sub, Int32.sub_zero]
def wo (Z : ZX) : Nat → Option Nat
  | 0 => none
  | k + 1 => if (!lsb Z k && (match wo Z k with
    | none => true
    | some j => decide (ab (lf Z j) < ab (lf Z k)))) = true then some k else wo Z k
theorem wo_lt (Z : ZX) : ∀ k j, wo Z k = some j → j < k := by
  intro k
  induction k with
  | zero => intro j h; cases h
  | succ k ih =>
    intro j h
    have e : ∃ c : Bool, wo Z (k + 1) = if c = true then some k else wo Z k := ⟨_, rfl⟩
    obtain ⟨c, e⟩ := e
    rw [e] at h
    cases c
    · rw [if_neg (by decide)] at h
      have := ih j h
      omega
    · rw [if_pos rfl] at h
      injection h with h
      omega
theorem b_worst (hd : 5 ≤ d) (hS : Sim w) : Both P d 172 333 [] w := by
  obtain ⟨Z, h1, h2, h3⟩ := hS
  obtain ⟨d, rfl⟩ : ∃ k, d = k + 1 := ⟨d - 1, by omega⟩
  have hd1 : 1 ≤ d := by omega
  have hd2 : 2 ≤ d := by omega
  have hd3 : 3 ≤ d := by omega
  refine both_q h1 h2 h3 (r := .int (oI (wo Z 8))) ?_ ?_
  · have hl := for_q (w := w) (x := ee_ev es_sh es_rf (ee_run ee_B P d) lx_172_1) (b := ee_evS es_sh es_rf (ee_run ee_B P d) lb_172_1)
      (fun k => [some (.ref 0), some (.int (oI (wo Z k))), some (.int (Int32.ofNat k))]) 8
      (by
        intro k hk
        have h9 : Int32.ofNat k < 8 := (j_lt (b := 8) (by omega) (by omega)).2 hk
        have l := c_lostZ (P := P) hd1 h1 k
        have e := c_leftOf (P := P) hd3 h1 hk
        have ea := r_abs (P := P) (w := w) hd1 (lf Z k)
        rw [show (if lf Z k < 0 then -lf Z k else lf Z k) = ab (lf Z k) from rfl] at ea
        cases a : lsb Z k
        · rw [a] at l
          cases c : wo Z k with
          | none => simp only [h9, l, wo, a, c, oI, j_s, j_a, lx_172_1, lb_172_1, ee_turn, k_0, k_4294967295, k_8, nz_8, v_and, v_call, v_cmp, v_cons, v_int, v_loc, v_nil, v_not, v_or, v_z, w_if, w_inc, w_ret, w_seq, w_set, w_skip, List.getElem?_cons_zero, List.getElem?_cons_succ, List.set_cons_zero, List.set_cons_succ, ee_cmp0, ee_cmp1, ee_cmp2, ee_cmp3, ee_cmp4, ee_cmp5, ee_cmpL0, ee_cmpL1, ee_cmpL2, ee_cmpL3, ee_cmpL4, ee_cmpL5, ee_tru_eb, decide_eq_true_eq, ib_i, ie_b, ie_f, ie_t, ib_l, fin_i, fin_l, fin_v, fin_z, fin_a, fin_n, ee_b_0, ee_fld0, ee_fld1, ee_fld2, ee_fld3, bi_0, bi_1, bi_2, bi_3, bi_4, bi_5, bi_6, bi_7, bi_8, bi_9, bi_10, bl_20, bl_21, bl_22, bl_23, bl_24, bl_25, bl_26, bl_48, bl_49, un_0, un_1, un_2, un_3, if_true, if_false, ite_true, ite_false, Bool.false_eq_true, Bool.not_eq_false, decide_not, Bool.not_not, reduceCtorEq, st_i, st_l, st_r, st_n, ee_noL, ee_noL.eq_1, List.length_cons, List.length_nil, Nat.reduceAdd, Nat.reduceLT, Nat.zero_add, and_true, true_and, and_self, fin_ite, pu_0, pu_1, pu_3, sto_0, el_0, Bool.not_eq_true, decide_eq_false_iff_not, Bool.decide_eq_true, Bool.decide_eq_false, decide_true, decide_false, Bool.not_true, Bool.not_false, Bool.and_self, Bool.and_true, Bool.and_false, Bool.true_and, Bool.false_and, Bool.or_true, Bool.or_false, Bool.true_or, Bool.false_or, if_true, if_false, Bool.false_eq_true]
          | some j =>
            have hj := wo_lt Z k j c
            have nj := ofN_ne (show j < 2147483648 by omega)
            have e2 := c_leftOf (P := P) hd3 h1 (show j < 8 by omega)
            have ea2 := r_abs (P := P) (w := w) hd1 (lf Z j)
            rw [show (if lf Z j < 0 then -lf Z j else lf Z j) = ab (lf Z j) from rfl] at ea2
            cases g : decide (ab (lf Z j) < ab (lf Z k)) <;> simp only [h9, l, wo, a, c, oI, nj, e, e2, ea, ea2, g, j_s, j_a, lx_172_1, lb_172_1, ee_turn, k_0, k_4294967295, k_8, nz_8, v_and, v_call, v_cmp, v_cons, v_int, v_loc, v_nil, v_not, v_or, v_z, w_if, w_inc, w_ret, w_seq, w_set, w_skip, List.getElem?_cons_zero, List.getElem?_cons_succ, List.set_cons_zero, List.set_cons_succ, ee_cmp0, ee_cmp1, ee_cmp2, ee_cmp3, ee_cmp4, ee_cmp5, ee_cmpL0, ee_cmpL1, ee_cmpL2, ee_cmpL3, ee_cmpL4, ee_cmpL5, ee_tru_eb, decide_eq_true_eq, ib_i, ie_b, ie_f, ie_t, ib_l, fin_i, fin_l, fin_v, fin_z, fin_a, fin_n, ee_b_0, ee_fld0, ee_fld1, ee_fld2, ee_fld3, bi_0, bi_1, bi_2, bi_3, bi_4, bi_5, bi_6, bi_7, bi_8, bi_9, bi_10, bl_20, bl_21, bl_22, bl_23, bl_24, bl_25, bl_26, bl_48, bl_49, un_0, un_1, un_2, un_3, if_true, if_false, ite_true, ite_false, Bool.false_eq_true, Bool.not_eq_false, decide_not, Bool.not_not, reduceCtorEq, st_i, st_l, st_r, st_n, ee_noL, ee_noL.eq_1, List.length_cons, List.length_nil, Nat.reduceAdd, Nat.reduceLT, Nat.zero_add, and_true, true_and, and_self, fin_ite, pu_0, pu_1, pu_3, sto_0, el_0, Bool.not_eq_true, decide_eq_false_iff_not, Bool.decide_eq_true, Bool.decide_eq_false, decide_true, decide_false, Bool.not_true, Bool.not_false, Bool.and_self, Bool.and_true, Bool.and_false, Bool.true_and, Bool.false_and, Bool.or_true, Bool.or_false, Bool.true_or, Bool.false_or, if_true, if_false, Bool.false_eq_true]
        · rw [a] at l
          simp only [h9, l, wo, a, j_s, j_a, lx_172_1, lb_172_1, ee_turn, k_0, k_4294967295, k_8, nz_8, v_and, v_call, v_cmp, v_cons, v_int, v_loc, v_nil, v_not, v_or, v_z, w_if, w_inc, w_ret, w_seq, w_set, w_skip, List.getElem?_cons_zero, List.getElem?_cons_succ, List.set_cons_zero, List.set_cons_succ, ee_cmp0, ee_cmp1, ee_cmp2, ee_cmp3, ee_cmp4, ee_cmp5, ee_cmpL0, ee_cmpL1, ee_cmpL2, ee_cmpL3, ee_cmpL4, ee_cmpL5, ee_tru_eb, decide_eq_true_eq, ib_i, ie_b, ie_f, ie_t, ib_l, fin_i, fin_l, fin_v, fin_z, fin_a, fin_n, ee_b_0, ee_fld0, ee_fld1, ee_fld2, ee_fld3, bi_0, bi_1, bi_2, bi_3, bi_4, bi_5, bi_6, bi_7, bi_8, bi_9, bi_10, bl_20, bl_21, bl_22, bl_23, bl_24, bl_25, bl_26, bl_48, bl_49, un_0, un_1, un_2, un_3, if_true, if_false, ite_true, ite_false, Bool.false_eq_true, Bool.not_eq_false, decide_not, Bool.not_not, reduceCtorEq, st_i, st_l, st_r, st_n, ee_noL, ee_noL.eq_1, List.length_cons, List.length_nil, Nat.reduceAdd, Nat.reduceLT, Nat.zero_add, and_true, true_and, and_self, fin_ite, pu_0, pu_1, pu_3, sto_0, el_0, Bool.not_eq_true, decide_eq_false_iff_not, Bool.decide_eq_true, Bool.decide_eq_false, decide_true, decide_false, Bool.not_true, Bool.not_false, Bool.and_self, Bool.and_true, Bool.and_false, Bool.true_and, Bool.false_and, Bool.or_true, Bool.or_false, Bool.true_or, Bool.false_or, if_true, if_false, Bool.false_eq_true])
      (by
        have h9 : ¬ (8 : Int32) < 8 := by decide
        simp only [h9, lx_172_1, lb_172_1, ee_turn, k_0, k_4294967295, k_8, nz_8, v_and, v_call, v_cmp, v_cons, v_int, v_loc, v_nil, v_not, v_or, v_z, w_if, w_inc, w_ret, w_seq, w_set, w_skip, List.getElem?_cons_zero, List.getElem?_cons_succ, List.set_cons_zero, List.set_cons_succ, ee_cmp0, ee_cmp1, ee_cmp2, ee_cmp3, ee_cmp4, ee_cmp5, ee_cmpL0, ee_cmpL1, ee_cmpL2, ee_cmpL3, ee_cmpL4, ee_cmpL5, ee_tru_eb, decide_eq_true_eq, ib_i, ie_b, ie_f, ie_t, ib_l, fin_i, fin_l, fin_v, fin_z, fin_a, fin_n, ee_b_0, ee_fld0, ee_fld1, ee_fld2, ee_fld3, bi_0, bi_1, bi_2, bi_3, bi_4, bi_5, bi_6, bi_7, bi_8, bi_9, bi_10, bl_20, bl_21, bl_22, bl_23, bl_24, bl_25, bl_26, bl_48, bl_49, un_0, un_1, un_2, un_3, if_true, if_false, ite_true, ite_false, Bool.false_eq_true, Bool.not_eq_false, decide_not, Bool.not_not, reduceCtorEq, st_i, st_l, st_r, st_n, ee_noL, ee_noL.eq_1, List.length_cons, List.length_nil, Nat.reduceAdd, Nat.reduceLT, Nat.zero_add, and_true, true_and, and_self, fin_ite, pu_0, pu_1, pu_3, sto_0, el_0, Bool.not_eq_true, decide_eq_false_iff_not, Bool.decide_eq_true, Bool.decide_eq_false, decide_true, decide_false, Bool.not_true, Bool.not_false, Bool.and_self, Bool.and_true, Bool.and_false, Bool.true_and, Bool.false_and, Bool.or_true, Bool.or_false, Bool.true_or, Bool.false_or, if_true, if_false, Bool.false_eq_true])
    rw [k_0, show oI (wo Z 0) = -1 from rfl] at hl
    rw [rn_172 cz_0]
    simp only [w_while, hl, be_172, k_0, k_4294967295, k_8, nz_8, v_and, v_call, v_cmp, v_cons, v_int, v_loc, v_nil, v_not, v_or, v_z, w_if, w_inc, w_ret, w_seq, w_set, w_skip, List.getElem?_cons_zero, List.getElem?_cons_succ, List.set_cons_zero, List.set_cons_succ, ee_cmp0, ee_cmp1, ee_cmp2, ee_cmp3, ee_cmp4, ee_cmp5, ee_cmpL0, ee_cmpL1, ee_cmpL2, ee_cmpL3, ee_cmpL4, ee_cmpL5, ee_tru_eb, decide_eq_true_eq, ib_i, ie_b, ie_f, ie_t, ib_l, fin_i, fin_l, fin_v, fin_z, fin_a, fin_n, ee_b_0, ee_fld0, ee_fld1, ee_fld2, ee_fld3, bi_0, bi_1, bi_2, bi_3, bi_4, bi_5, bi_6, bi_7, bi_8, bi_9, bi_10, bl_20, bl_21, bl_22, bl_23, bl_24, bl_25, bl_26, bl_48, bl_49, un_0, un_1, un_2, un_3, if_true, if_false, ite_true, ite_false, Bool.false_eq_true, Bool.not_eq_false, decide_not, Bool.not_not, reduceCtorEq, st_i, st_l, st_r, st_n, ee_noL, ee_noL.eq_1, List.length_cons, List.length_nil, Nat.reduceAdd, Nat.reduceLT, Nat.zero_add, and_true, true_and, and_self, fin_ite, pu_0, pu_1, pu_3, sto_0, el_0, Bool.not_eq_true, decide_eq_false_iff_not, Bool.decide_eq_true, Bool.decide_eq_false, decide_true, decide_false, Bool.not_true, Bool.not_false, Bool.and_self, Bool.and_true, Bool.and_false, Bool.true_and, Bool.false_and, Bool.or_true, Bool.or_false, Bool.true_or, Bool.false_or, if_true, if_false, Bool.false_eq_true]
  · have hl := for_q (w := w) (x := ee_ev es_sh es_rf (ee_run ee_B P d) lx_333_1) (b := ee_evS es_sh es_rf (ee_run ee_B P d) lb_333_1)
      (fun k => [some (.ref 236), some (.int (oI (wo Z k))), some (.int (Int32.ofNat k))]) 8
      (by
        intro k hk
        have h9 : Int32.ofNat k < 8 := (j_lt (b := 8) (by omega) (by omega)).2 hk
        have l := m_lostZ (P := P) hd2 h2 k
        have e := m_leftOf (P := P) hd1 h2 hk
        have ea := r_apartBy (P := P) (w := w) hd1 (lf Z k) 0
        rw [ab_0] at ea
        cases a : lsb Z k
        · rw [a] at l
          cases c : wo Z k with
          | none => simp only [h9, l, wo, a, c, oI, lx_333_1, lb_333_1, ee_turn, k_0, k_4294967295, k_8, nz_8, v_and, v_call, v_cmp, v_cons, v_int, v_loc, v_nil, v_not, v_or, v_z, w_if, w_inc, w_ret, w_seq, w_set, w_skip, List.getElem?_cons_zero, List.getElem?_cons_succ, List.set_cons_zero, List.set_cons_succ, ee_cmp0, ee_cmp1, ee_cmp2, ee_cmp3, ee_cmp4, ee_cmp5, ee_cmpL0, ee_cmpL1, ee_cmpL2, ee_cmpL3, ee_cmpL4, ee_cmpL5, ee_tru_eb, decide_eq_true_eq, ib_i, ie_b, ie_f, ie_t, ib_l, fin_i, fin_l, fin_v, fin_z, fin_a, fin_n, ee_b_0, ee_fld0, ee_fld1, ee_fld2, ee_fld3, bi_0, bi_1, bi_2, bi_3, bi_4, bi_5, bi_6, bi_7, bi_8, bi_9, bi_10, bl_20, bl_21, bl_22, bl_23, bl_24, bl_25, bl_26, bl_48, bl_49, un_0, un_1, un_2, un_3, if_true, if_false, ite_true, ite_false, Bool.false_eq_true, Bool.not_eq_false, decide_not, Bool.not_not, reduceCtorEq, st_i, st_l, st_r, st_n, ee_noL, ee_noL.eq_1, List.length_cons, List.length_nil, Nat.reduceAdd, Nat.reduceLT, Nat.zero_add, and_true, true_and, and_self, fin_ite, pu_0, pu_1, pu_3, sto_0, el_0, Bool.not_eq_true, decide_eq_false_iff_not, Bool.decide_eq_true, Bool.decide_eq_false, decide_true, decide_false, Bool.not_true, Bool.not_false, Bool.and_self, Bool.and_true, Bool.and_false, Bool.true_and, Bool.false_and, Bool.or_true, Bool.or_false, Bool.true_or, Bool.false_or, if_true, if_false, Bool.false_eq_true, tc_0, ix_0, tc_8, ix_8, mz_0, mz_1, mz_a, rvs, j_s, j_a, wI_at, Nat.reduceEqDiff, zero_ne_one_n, one_ne_zero_n]
          | some j =>
            have hj := wo_lt Z k j c
            have nj := ofN_ne (show j < 2147483648 by omega)
            have e2 := m_leftOf (P := P) hd1 h2 (show j < 8 by omega)
            have ea2 := r_apartBy (P := P) (w := w) hd1 (lf Z j) 0
            rw [ab_0] at ea2
            cases g : decide (ab (lf Z j) < ab (lf Z k)) <;> simp only [h9, l, wo, a, c, oI, nj, e, e2, ea, ea2, g, lx_333_1, lb_333_1, ee_turn, k_0, k_4294967295, k_8, nz_8, v_and, v_call, v_cmp, v_cons, v_int, v_loc, v_nil, v_not, v_or, v_z, w_if, w_inc, w_ret, w_seq, w_set, w_skip, List.getElem?_cons_zero, List.getElem?_cons_succ, List.set_cons_zero, List.set_cons_succ, ee_cmp0, ee_cmp1, ee_cmp2, ee_cmp3, ee_cmp4, ee_cmp5, ee_cmpL0, ee_cmpL1, ee_cmpL2, ee_cmpL3, ee_cmpL4, ee_cmpL5, ee_tru_eb, decide_eq_true_eq, ib_i, ie_b, ie_f, ie_t, ib_l, fin_i, fin_l, fin_v, fin_z, fin_a, fin_n, ee_b_0, ee_fld0, ee_fld1, ee_fld2, ee_fld3, bi_0, bi_1, bi_2, bi_3, bi_4, bi_5, bi_6, bi_7, bi_8, bi_9, bi_10, bl_20, bl_21, bl_22, bl_23, bl_24, bl_25, bl_26, bl_48, bl_49, un_0, un_1, un_2, un_3, if_true, if_false, ite_true, ite_false, Bool.false_eq_true, Bool.not_eq_false, decide_not, Bool.not_not, reduceCtorEq, st_i, st_l, st_r, st_n, ee_noL, ee_noL.eq_1, List.length_cons, List.length_nil, Nat.reduceAdd, Nat.reduceLT, Nat.zero_add, and_true, true_and, and_self, fin_ite, pu_0, pu_1, pu_3, sto_0, el_0, Bool.not_eq_true, decide_eq_false_iff_not, Bool.decide_eq_true, Bool.decide_eq_false, decide_true, decide_false, Bool.not_true, Bool.not_false, Bool.and_self, Bool.and_true, Bool.and_false, Bool.true_and, Bool.false_and, Bool.or_true, Bool.or_false, Bool.true_or, Bool.false_or, if_true, if_false, Bool.false_eq_true, tc_0, ix_0, tc_8, ix_8, mz_0, mz_1, mz_a, rvs, j_s, j_a, wI_at, Nat.reduceEqDiff, zero_ne_one_n, one_ne_zero_n]
        · rw [a] at l
          simp only [h9, l, wo, a, lx_333_1, lb_333_1, ee_turn, k_0, k_4294967295, k_8, nz_8, v_and, v_call, v_cmp, v_cons, v_int, v_loc, v_nil, v_not, v_or, v_z, w_if, w_inc, w_ret, w_seq, w_set, w_skip, List.getElem?_cons_zero, List.getElem?_cons_succ, List.set_cons_zero, List.set_cons_succ, ee_cmp0, ee_cmp1, ee_cmp2, ee_cmp3, ee_cmp4, ee_cmp5, ee_cmpL0, ee_cmpL1, ee_cmpL2, ee_cmpL3, ee_cmpL4, ee_cmpL5, ee_tru_eb, decide_eq_true_eq, ib_i, ie_b, ie_f, ie_t, ib_l, fin_i, fin_l, fin_v, fin_z, fin_a, fin_n, ee_b_0, ee_fld0, ee_fld1, ee_fld2, ee_fld3, bi_0, bi_1, bi_2, bi_3, bi_4, bi_5, bi_6, bi_7, bi_8, bi_9, bi_10, bl_20, bl_21, bl_22, bl_23, bl_24, bl_25, bl_26, bl_48, bl_49, un_0, un_1, un_2, un_3, if_true, if_false, ite_true, ite_false, Bool.false_eq_true, Bool.not_eq_false, decide_not, Bool.not_not, reduceCtorEq, st_i, st_l, st_r, st_n, ee_noL, ee_noL.eq_1, List.length_cons, List.length_nil, Nat.reduceAdd, Nat.reduceLT, Nat.zero_add, and_true, true_and, and_self, fin_ite, pu_0, pu_1, pu_3, sto_0, el_0, Bool.not_eq_true, decide_eq_false_iff_not, Bool.decide_eq_true, Bool.decide_eq_false, decide_true, decide_false, Bool.not_true, Bool.not_false, Bool.and_self, Bool.and_true, Bool.and_false, Bool.true_and, Bool.false_and, Bool.or_true, Bool.or_false, Bool.true_or, Bool.false_or, if_true, if_false, Bool.false_eq_true, tc_0, ix_0, tc_8, ix_8, mz_0, mz_1, mz_a, rvs, j_s, j_a, wI_at, Nat.reduceEqDiff, zero_ne_one_n, one_ne_zero_n])
      (by
        have h9 : ¬ (8 : Int32) < 8 := by decide
        simp only [h9, lx_333_1, lb_333_1, ee_turn, k_0, k_4294967295, k_8, nz_8, v_and, v_call, v_cmp, v_cons, v_int, v_loc, v_nil, v_not, v_or, v_z, w_if, w_inc, w_ret, w_seq, w_set, w_skip, List.getElem?_cons_zero, List.getElem?_cons_succ, List.set_cons_zero, List.set_cons_succ, ee_cmp0, ee_cmp1, ee_cmp2, ee_cmp3, ee_cmp4, ee_cmp5, ee_cmpL0, ee_cmpL1, ee_cmpL2, ee_cmpL3, ee_cmpL4, ee_cmpL5, ee_tru_eb, decide_eq_true_eq, ib_i, ie_b, ie_f, ie_t, ib_l, fin_i, fin_l, fin_v, fin_z, fin_a, fin_n, ee_b_0, ee_fld0, ee_fld1, ee_fld2, ee_fld3, bi_0, bi_1, bi_2, bi_3, bi_4, bi_5, bi_6, bi_7, bi_8, bi_9, bi_10, bl_20, bl_21, bl_22, bl_23, bl_24, bl_25, bl_26, bl_48, bl_49, un_0, un_1, un_2, un_3, if_true, if_false, ite_true, ite_false, Bool.false_eq_true, Bool.not_eq_false, decide_not, Bool.not_not, reduceCtorEq, st_i, st_l, st_r, st_n, ee_noL, ee_noL.eq_1, List.length_cons, List.length_nil, Nat.reduceAdd, Nat.reduceLT, Nat.zero_add, and_true, true_and, and_self, fin_ite, pu_0, pu_1, pu_3, sto_0, el_0, Bool.not_eq_true, decide_eq_false_iff_not, Bool.decide_eq_true, Bool.decide_eq_false, decide_true, decide_false, Bool.not_true, Bool.not_false, Bool.and_self, Bool.and_true, Bool.and_false, Bool.true_and, Bool.false_and, Bool.or_true, Bool.or_false, Bool.true_or, Bool.false_or, if_true, if_false, Bool.false_eq_true])
    rw [k_0, show oI (wo Z 0) = -1 from rfl] at hl
    rw [rn_333 mz_0]
    simp only [w_while, hl, be_333, k_0, k_4294967295, k_8, nz_8, v_and, v_call, v_cmp, v_cons, v_int, v_loc, v_nil, v_not, v_or, v_z, w_if, w_inc, w_ret, w_seq, w_set, w_skip, List.getElem?_cons_zero, List.getElem?_cons_succ, List.set_cons_zero, List.set_cons_succ, ee_cmp0, ee_cmp1, ee_cmp2, ee_cmp3, ee_cmp4, ee_cmp5, ee_cmpL0, ee_cmpL1, ee_cmpL2, ee_cmpL3, ee_cmpL4, ee_cmpL5, ee_tru_eb, decide_eq_true_eq, ib_i, ie_b, ie_f, ie_t, ib_l, fin_i, fin_l, fin_v, fin_z, fin_a, fin_n, ee_b_0, ee_fld0, ee_fld1, ee_fld2, ee_fld3, bi_0, bi_1, bi_2, bi_3, bi_4, bi_5, bi_6, bi_7, bi_8, bi_9, bi_10, bl_20, bl_21, bl_22, bl_23, bl_24, bl_25, bl_26, bl_48, bl_49, un_0, un_1, un_2, un_3, if_true, if_false, ite_true, ite_false, Bool.false_eq_true, Bool.not_eq_false, decide_not, Bool.not_not, reduceCtorEq, st_i, st_l, st_r, st_n, ee_noL, ee_noL.eq_1, List.length_cons, List.length_nil, Nat.reduceAdd, Nat.reduceLT, Nat.zero_add, and_true, true_and, and_self, fin_ite, pu_0, pu_1, pu_3, sto_0, el_0, Bool.not_eq_true, decide_eq_false_iff_not, Bool.decide_eq_true, Bool.decide_eq_false, decide_true, decide_false, Bool.not_true, Bool.not_false, Bool.and_self, Bool.and_true, Bool.and_false, Bool.true_and, Bool.false_and, Bool.or_true, Bool.or_false, Bool.true_or, Bool.false_or, if_true, if_false, Bool.false_eq_true, ix_0, ix_8, tc_0, tc_8, mz_0, mz_1, mz_a, rvs, j_s, j_a, wI_at, Nat.reduceEqDiff, zero_ne_one_n, one_ne_zero_n]
end BJ
