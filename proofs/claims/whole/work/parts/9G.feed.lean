/-! the tape on both sides -/
section BFE
variable {P : Nat → Nat → List Value → ee_W → Option (List Value × ee_W)} {d : Nat} {w : ee_W} {Z : ZX}
theorem w_incm8 {sh : Nat → Nat × Nat} {rf : Nat → Nat → Option Nat} {C : Nat → List Value → ee_W → Option (List Value × ee_W)} {env : ee_E} {w : ee_W} {v : Int32} (i : Nat) : ee_evS sh rf C (s_inc i 4294967288) v env w = (match env[i]? with
    | some (some (.int x)) => if ee_noL env i = true then some (.inl (env.set i (some (.int (x + -8))), w)) else none
    | _ => none) := by
  rw [w_inc, show Int32.ofNat 4294967288 = -8 from rfl]
  rfl
theorem rd_235 : es_sh 235 = (0, 300) := by decide +kernel
theorem mz_tp : es_rf 236 3 = some 240 := by decide +kernel
theorem mz_tps : es_sh 240 = (0, 300) := by decide +kernel
theorem k_4294967288 : Int32.ofNat 4294967288 = -8 := rfl
def bt (v s : Int32) : Int32 := (v >>> (s &&& 31)) &&& 255
/-- one byte more: cells of the row and of its length -/
def fd (a c k : Nat) (w : ee_W) (n : Nat) (x : Int32) : ee_W := ee_wI (ee_wI w a n x) c k (Int32.ofNat (n + 1))
theorem t_13 {n : Nat} (hd : 1 ≤ d) (hn : n < 300) (h0 : w.1 0 9 = Int32.ofNat n) {v s s' x : Int32} (hs : 0 ≤ s) (hs' : s + -8 = s') (hx : (v.toUInt32 >>> (s.toUInt32 &&& Int32.toUInt32 31)).toInt32 &&& 255 = x) :
    ee_turn (ee_ev es_sh es_rf (ee_run ee_B P d) lx_13_1) (ee_evS es_sh es_rf (ee_run ee_B P d) lb_13_1) ([some (.ref 0), some (.int v), some (.int s)], w) = some (.inl ([some (.ref 0), some (.int v), some (.int s')], fd 235 0 9 w n x)) := by
  have q1 : (0 : Int32) ≤ Int32.ofNat n := (j_le (a := 0) (by omega) (by omega)).2 (by omega)
  have q2 : Int32.ofNat n ≤ 299 := (j_le (b := 299) (by omega) (by omega)).2 (by omega)
  have q : (decide ((0 : Int32) ≤ Int32.ofNat n) && decide (Int32.ofNat n ≤ 299)) = true := by rw [decide_eq_true q1, decide_eq_true q2]; rfl
  have x1 : ee_ix (Int32.ofNat n) 300 = true := by rw [ixn (by omega)]; exact decide_eq_true hn
  unfold fd
  simp only [hs, h0, r_within hd, q, x1, tnc (show n < 2147483648 by omega), hs', hx, cz_0, cz_r8, rd_235, rvs, j_s, j_a, lx_13_1, lb_13_1, ee_turn, k_0, k_1, k_24, k_255, k_299, nz_1, nz_24, nz_255, nz_299, v_bin, v_call, v_cons, v_get, v_int, v_loc, v_nil, v_z, w_if, w_incm1, w_incm2, w_incm8, w_incp1, w_opf, w_retv, w_seq, w_set, w_skip, w_sto, List.getElem?_cons_zero, List.getElem?_cons_succ, List.set_cons_zero, List.set_cons_succ, ee_cmp0, ee_cmp1, ee_cmp2, ee_cmp3, ee_cmp4, ee_cmp5, ee_cmpL0, ee_cmpL1, ee_cmpL2, ee_cmpL3, ee_cmpL4, ee_cmpL5, ee_tru_eb, decide_eq_true_eq, ib_i, ie_b, ie_f, ie_t, ib_l, fin_i, fin_l, fin_v, fin_z, fin_a, fin_n, ee_b_0, ee_fld0, ee_fld1, ee_fld2, ee_fld3, bi_0, bi_1, bi_2, bi_3, bi_4, bi_5, bi_6, bi_7, bi_8, bi_9, bi_10, bl_20, bl_21, bl_22, bl_23, bl_24, bl_25, bl_26, bl_48, bl_49, un_0, un_1, un_2, un_3, if_true, if_false, ite_true, ite_false, Bool.false_eq_true, Bool.not_eq_false, decide_not, Bool.not_not, reduceCtorEq, st_i, st_l, st_r, st_n, ee_noL, ee_noL.eq_1, List.length_cons, List.length_nil, Nat.reduceAdd, Nat.reduceLT, Nat.zero_add, and_true, true_and, and_self, fin_ite, pu_0, pu_1, pu_3, sto_0, el_0, Bool.not_eq_true, decide_eq_false_iff_not, Bool.decide_eq_true, Bool.decide_eq_false, decide_true, decide_false, Bool.not_true, Bool.not_false, Bool.and_self, Bool.and_true, Bool.and_false, Bool.true_and, Bool.false_and, Bool.or_true, Bool.or_false, Bool.true_or, Bool.false_or, if_true, if_false, Bool.false_eq_true, zz_ce, zz_ec, zz_cf, zz_fc, zz_ef, zz_fe, wI_at, wI_2, wJ_at, wJ_1, wJ_2, and_true, true_and, and_false, false_and, if_true, if_false, Nat.reduceEqDiff, Nat.reduceAdd, zero_ne_one_n, one_ne_zero_n]
theorem t_13e {v s : Int32} (hs : ¬ 0 ≤ s) :
    ee_turn (ee_ev es_sh es_rf (ee_run ee_B P d) lx_13_1) (ee_evS es_sh es_rf (ee_run ee_B P d) lb_13_1) ([some (.ref 0), some (.int v), some (.int s)], w) = some (.inr (.inl ([some (.ref 0), some (.int v), some (.int s)], w))) := by
  simp only [hs, lx_13_1, lb_13_1, ee_turn, k_0, k_1, k_24, k_255, k_299, nz_1, nz_24, nz_255, nz_299, v_bin, v_call, v_cons, v_get, v_int, v_loc, v_nil, v_z, w_if, w_incm1, w_incm2, w_incm8, w_incp1, w_opf, w_retv, w_seq, w_set, w_skip, w_sto, List.getElem?_cons_zero, List.getElem?_cons_succ, List.set_cons_zero, List.set_cons_succ, ee_cmp0, ee_cmp1, ee_cmp2, ee_cmp3, ee_cmp4, ee_cmp5, ee_cmpL0, ee_cmpL1, ee_cmpL2, ee_cmpL3, ee_cmpL4, ee_cmpL5, ee_tru_eb, decide_eq_true_eq, ib_i, ie_b, ie_f, ie_t, ib_l, fin_i, fin_l, fin_v, fin_z, fin_a, fin_n, ee_b_0, ee_fld0, ee_fld1, ee_fld2, ee_fld3, bi_0, bi_1, bi_2, bi_3, bi_4, bi_5, bi_6, bi_7, bi_8, bi_9, bi_10, bl_20, bl_21, bl_22, bl_23, bl_24, bl_25, bl_26, bl_48, bl_49, un_0, un_1, un_2, un_3, if_true, if_false, ite_true, ite_false, Bool.false_eq_true, Bool.not_eq_false, decide_not, Bool.not_not, reduceCtorEq, st_i, st_l, st_r, st_n, ee_noL, ee_noL.eq_1, List.length_cons, List.length_nil, Nat.reduceAdd, Nat.reduceLT, Nat.zero_add, and_true, true_and, and_self, fin_ite, pu_0, pu_1, pu_3, sto_0, el_0, Bool.not_eq_true, decide_eq_false_iff_not, Bool.decide_eq_true, Bool.decide_eq_false, decide_true, decide_false, Bool.not_true, Bool.not_false, Bool.and_self, Bool.and_true, Bool.and_false, Bool.true_and, Bool.false_and, Bool.or_true, Bool.or_false, Bool.true_or, Bool.false_or, if_true, if_false, Bool.false_eq_true]
theorem t_191 {n : Nat} (hn : n < 300) (h0 : w.1 236 4 = Int32.ofNat n) {v s s' x : Int32} (hs : 0 ≤ s) (hs' : s + -8 = s') (hx : (v >>> (s &&& 31)) &&& 255 = x) :
    ee_turn (ee_ev es_sh es_rf (ee_run ee_B P d) lx_191_1) (ee_evS es_sh es_rf (ee_run ee_B P d) lb_191_1) ([some (.ref 236), some (.int v), some (.int s)], w) = some (.inl ([some (.ref 236), some (.int v), some (.int s')], fd 240 236 4 w n x)) := by
  have x1 : ee_ix (Int32.ofNat n) 300 = true := by rw [ixn (by omega)]; exact decide_eq_true hn
  unfold fd
  simp only [hs, h0, x1, tnc (show n < 2147483648 by omega), hs', hx, mz_tp, mz_tps, false_and, lx_191_1, lb_191_1, ee_turn, k_1, k_24, k_255, nz_1, nz_24, nz_255, v_bin, v_get, v_int, v_loc, v_z, w_incm1, w_incm2, w_incm8, w_incp1, w_opf, w_retv, w_seq, w_set, w_sto, List.getElem?_cons_zero, List.getElem?_cons_succ, List.set_cons_zero, List.set_cons_succ, ee_cmp0, ee_cmp1, ee_cmp2, ee_cmp3, ee_cmp4, ee_cmp5, ee_cmpL0, ee_cmpL1, ee_cmpL2, ee_cmpL3, ee_cmpL4, ee_cmpL5, ee_tru_eb, decide_eq_true_eq, ib_i, ie_b, ie_f, ie_t, ib_l, fin_i, fin_l, fin_v, fin_z, fin_a, fin_n, ee_b_0, ee_fld0, ee_fld1, ee_fld2, ee_fld3, bi_0, bi_1, bi_2, bi_3, bi_4, bi_5, bi_6, bi_7, bi_8, bi_9, bi_10, bl_20, bl_21, bl_22, bl_23, bl_24, bl_25, bl_26, bl_48, bl_49, un_0, un_1, un_2, un_3, if_true, if_false, ite_true, ite_false, Bool.false_eq_true, Bool.not_eq_false, decide_not, Bool.not_not, reduceCtorEq, st_i, st_l, st_r, st_n, ee_noL, ee_noL.eq_1, List.length_cons, List.length_nil, Nat.reduceAdd, Nat.reduceLT, Nat.zero_add, and_true, true_and, and_self, fin_ite, pu_0, pu_1, pu_3, sto_0, el_0, Bool.not_eq_true, decide_eq_false_iff_not, Bool.decide_eq_true, Bool.decide_eq_false, decide_true, decide_false, Bool.not_true, Bool.not_false, Bool.and_self, Bool.and_true, Bool.and_false, Bool.true_and, Bool.false_and, Bool.or_true, Bool.or_false, Bool.true_or, Bool.false_or, if_true, if_false, Bool.false_eq_true, tc_1, ix_1, tc_24, ix_24, tc_255, ix_255, mz_0, mz_1, mz_a, rvs, j_s, j_a, wI_at, Nat.reduceEqDiff, zero_ne_one_n, one_ne_zero_n]
theorem t_191e {v s : Int32} (hs : ¬ 0 ≤ s) :
    ee_turn (ee_ev es_sh es_rf (ee_run ee_B P d) lx_191_1) (ee_evS es_sh es_rf (ee_run ee_B P d) lb_191_1) ([some (.ref 236), some (.int v), some (.int s)], w) = some (.inr (.inl ([some (.ref 236), some (.int v), some (.int s)], w))) := by
  simp only [hs, lx_191_1, lb_191_1, ee_turn, k_1, k_24, k_255, nz_1, nz_24, nz_255, v_bin, v_get, v_int, v_loc, v_z, w_incm1, w_incm2, w_incm8, w_incp1, w_opf, w_retv, w_seq, w_set, w_sto, List.getElem?_cons_zero, List.getElem?_cons_succ, List.set_cons_zero, List.set_cons_succ, ee_cmp0, ee_cmp1, ee_cmp2, ee_cmp3, ee_cmp4, ee_cmp5, ee_cmpL0, ee_cmpL1, ee_cmpL2, ee_cmpL3, ee_cmpL4, ee_cmpL5, ee_tru_eb, decide_eq_true_eq, ib_i, ie_b, ie_f, ie_t, ib_l, fin_i, fin_l, fin_v, fin_z, fin_a, fin_n, ee_b_0, ee_fld0, ee_fld1, ee_fld2, ee_fld3, bi_0, bi_1, bi_2, bi_3, bi_4, bi_5, bi_6, bi_7, bi_8, bi_9, bi_10, bl_20, bl_21, bl_22, bl_23, bl_24, bl_25, bl_26, bl_48, bl_49, un_0, un_1, un_2, un_3, if_true, if_false, ite_true, ite_false, Bool.false_eq_true, Bool.not_eq_false, decide_not, Bool.not_not, reduceCtorEq, st_i, st_l, st_r, st_n, ee_noL, ee_noL.eq_1, List.length_cons, List.length_nil, Nat.reduceAdd, Nat.reduceLT, Nat.zero_add, and_true, true_and, and_self, fin_ite, pu_0, pu_1, pu_3, sto_0, el_0, Bool.not_eq_true, decide_eq_false_iff_not, Bool.decide_eq_true, Bool.decide_eq_false, decide_true, decide_false, Bool.not_true, Bool.not_false, Bool.and_self, Bool.and_true, Bool.and_false, Bool.true_and, Bool.false_and, Bool.or_true, Bool.or_false, Bool.true_or, Bool.false_or, if_true, if_false, Bool.false_eq_true, tc_1, ix_1, tc_24, ix_24, tc_255, ix_255, mz_0, mz_1, mz_a, rvs, j_s, j_a, wI_at, Nat.reduceEqDiff, zero_ne_one_n, one_ne_zero_n]
/-- a tape in cells -/
def TP (a c k : Nat) (w : ee_W) (n : Nat) (f : Nat → Int32) : Prop := w.1 c k = Int32.ofNat n ∧ ∀ i, i < n → w.1 a i = f i
theorem tp_fd {a c k n : Nat} {f : Nat → Int32} (h : TP a c k w n f) (hac : a ≠ c) (x : Int32) : TP a c k (fd a c k w n x) (n + 1) (up f n x) := by
  obtain ⟨h1, h2⟩ := h
  refine ⟨?_, fun i hi => ?_⟩
  · unfold fd
    rw [wI_at, if_pos ⟨rfl, rfl⟩]
  · unfold fd
    rw [wI_at, if_neg (fun z => hac z.1), wI_at, up_at]
    by_cases y : i = n
    · rw [if_pos ⟨rfl, y⟩, if_pos y]
    · rw [if_neg (fun z => y z.2), if_neg y]; exact h2 i (by omega)
def pfd (a c k : Nat) (x j : Nat) : Prop := x = a ∨ (x = c ∧ j = k)
theorem fd_chk {a c k n : Nat} {x : Int32} {w0 : ee_W} (h : chk (pfd a c k) w0 w) : chk (pfd a c k) w0 (fd a c k w n x) := chk_I (Or.inr ⟨rfl, rfl⟩) (chk_I (Or.inl rfl) h)
def f4 (f : Nat → Int32) (n : Nat) (v : Int32) : Nat → Int32 := up (up (up (up f n (bt v 24)) (n + 1) (bt v 16)) (n + 2) (bt v 8)) (n + 3) (bt v 0)
theorem bt_b (v s : Int32) : bI (bt v s) 0 255 := by
  unfold bt
  generalize v >>> (s &&& 31) = y
  have h : (y &&& 255).toBitVec.toNat ≤ 255 := by
    rw [Int32.toBitVec_and, BitVec.toNat_and]
    exact Nat.and_le_right
  have e : (y &&& 255).toInt = ((y &&& 255).toBitVec.toNat : Int) := by
    show (y &&& 255).toBitVec.toInt = _
    rw [BitVec.toInt_eq_toNat_of_lt (by omega)]
  unfold bI
  rw [e]
  exact ⟨by omega, by omega⟩
theorem f4_b {f : Nat → Int32} {n : Nat} (h : ∀ i, i < n → bI (f i) 0 255) (v : Int32) : ∀ i, i < n + 4 → bI (f4 f n v i) 0 255 := by
  intro i hi
  unfold f4
  rw [up_at]
  split
  · exact bt_b _ _
  rw [up_at]
  split
  · exact bt_b _ _
  rw [up_at]
  split
  · exact bt_b _ _
  rw [up_at]
  split
  · exact bt_b _ _
  · exact h i (by omega)
theorem c_four {n : Nat} {f : Nat → Int32} (hd : 2 ≤ d) (hn : n + 4 ≤ 300) (h : TP 235 0 9 w n f) (v : Int32) : ∃ w', ee_run ee_B P d 13 [.ref 0, .int v] w = some ([], w') ∧ TP 235 0 9 w' (n + 4) (f4 f n v) ∧ chk (pfd 235 0 9) w w' := by
  obtain ⟨d, rfl⟩ : ∃ k, d = k + 1 := ⟨d - 1, by omega⟩
  have hd1 : 1 ≤ d := by omega
  have a1 := tp_fd h (by omega) (bt v 24)
  have a2 := tp_fd a1 (by omega) (bt v 16)
  have a3 := tp_fd a2 (by omega) (bt v 8)
  have a4 := tp_fd a3 (by omega) (bt v 0)
  refine ⟨_, ?_, a4, fd_chk (fd_chk (fd_chk (fd_chk (chk_refl _ _))))⟩
  have t1 := t_13 (P := P) hd1 (by omega) h.1 (v := v) (s := 24) (s' := 16) (by decide) (by decide) (by_24 v)
  have t2 := t_13 (P := P) hd1 (by omega) a1.1 (v := v) (s := 16) (s' := 8) (by decide) (by decide) (by_16 v)
  have t3 := t_13 (P := P) hd1 (by omega) a2.1 (v := v) (s := 8) (s' := 0) (by decide) (by decide) (by_8 v)
  have t4 := t_13 (P := P) hd1 (by omega) a3.1 (v := v) (s := 0) (s' := -8) (by decide) (by decide) (by_0 v)
  have hl : ee_wh (ee_turn (ee_ev es_sh es_rf (ee_run ee_B P d) lx_13_1) (ee_evS es_sh es_rf (ee_run ee_B P d) lb_13_1)) ([some (.ref 0), some (.int v), some (.int 24)], w) = some (.inl ([some (.ref 0), some (.int v), some (.int (-8))], fd 235 0 9 (fd 235 0 9 (fd 235 0 9 (fd 235 0 9 w n (bt v 24)) (n + 1) (bt v 16)) (n + 1 + 1) (bt v 8)) (n + 1 + 1 + 1) (bt v 0))) := by
    rw [ee_wh_eq, t1]
    dsimp only
    rw [ee_wh_eq, show (v >>> ((24 : Int32) &&& 31)) &&& 255 = bt v 24 from rfl, t2]
    dsimp only
    rw [ee_wh_eq, show (v >>> ((16 : Int32) &&& 31)) &&& 255 = bt v 16 from rfl, t3]
    dsimp only
    rw [ee_wh_eq, show (v >>> ((8 : Int32) &&& 31)) &&& 255 = bt v 8 from rfl, t4]
    dsimp only
    rw [ee_wh_eq, t_13e (by decide)]
    rfl
  rw [rn_13 cz_0]
  simp only [w_while, hl, be_13, k_0, k_1, k_24, k_255, k_299, k_4294967288, nz_1, nz_24, nz_255, nz_299, v_bin, v_call, v_cons, v_get, v_int, v_loc, v_nil, v_z, w_if, w_inc, w_opf, w_retv, w_seq, w_set, w_skip, w_sto, List.getElem?_cons_zero, List.getElem?_cons_succ, List.set_cons_zero, List.set_cons_succ, ee_cmp0, ee_cmp1, ee_cmp2, ee_cmp3, ee_cmp4, ee_cmp5, ee_cmpL0, ee_cmpL1, ee_cmpL2, ee_cmpL3, ee_cmpL4, ee_cmpL5, ee_tru_eb, decide_eq_true_eq, ib_i, ie_b, ie_f, ie_t, ib_l, fin_i, fin_l, fin_v, fin_z, fin_a, fin_n, ee_b_0, ee_fld0, ee_fld1, ee_fld2, ee_fld3, bi_0, bi_1, bi_2, bi_3, bi_4, bi_5, bi_6, bi_7, bi_8, bi_9, bi_10, bl_20, bl_21, bl_22, bl_23, bl_24, bl_25, bl_26, bl_48, bl_49, un_0, un_1, un_2, un_3, if_true, if_false, ite_true, ite_false, Bool.false_eq_true, Bool.not_eq_false, decide_not, Bool.not_not, reduceCtorEq, st_i, st_l, st_r, st_n, ee_noL, ee_noL.eq_1, List.length_cons, List.length_nil, Nat.reduceAdd, Nat.reduceLT, Nat.zero_add, and_true, true_and, and_self, fin_ite, pu_0, pu_1, pu_3, sto_0, el_0, Bool.not_eq_true, decide_eq_false_iff_not, Bool.decide_eq_true, Bool.decide_eq_false, decide_true, decide_false, Bool.not_true, Bool.not_false, Bool.and_self, Bool.and_true, Bool.and_false, Bool.true_and, Bool.false_and, Bool.or_true, Bool.or_false, Bool.true_or, Bool.false_or, if_true, if_false, Bool.false_eq_true]
theorem m_four {n : Nat} {f : Nat → Int32} (hd : 1 ≤ d) (hn : n + 4 ≤ 300) (h : TP 240 236 4 w n f) (v : Int32) : ∃ w', ee_run ee_B P d 191 [.ref 236, .int v] w = some ([], w') ∧ TP 240 236 4 w' (n + 4) (f4 f n v) ∧ chk (pfd 240 236 4) w w' := by
  obtain ⟨d, rfl⟩ : ∃ k, d = k + 1 := ⟨d - 1, by omega⟩
  have a1 := tp_fd h (by omega) (bt v 24)
  have a2 := tp_fd a1 (by omega) (bt v 16)
  have a3 := tp_fd a2 (by omega) (bt v 8)
  have a4 := tp_fd a3 (by omega) (bt v 0)
  refine ⟨_, ?_, a4, fd_chk (fd_chk (fd_chk (fd_chk (chk_refl _ _))))⟩
  have t1 := t_191 (P := P) (d := d) (by omega) h.1 (v := v) (s := 24) (s' := 16) (by decide) (by decide) rfl
  have t2 := t_191 (P := P) (d := d) (by omega) a1.1 (v := v) (s := 16) (s' := 8) (by decide) (by decide) rfl
  have t3 := t_191 (P := P) (d := d) (by omega) a2.1 (v := v) (s := 8) (s' := 0) (by decide) (by decide) rfl
  have t4 := t_191 (P := P) (d := d) (by omega) a3.1 (v := v) (s := 0) (s' := -8) (by decide) (by decide) rfl
  have hl : ee_wh (ee_turn (ee_ev es_sh es_rf (ee_run ee_B P d) lx_191_1) (ee_evS es_sh es_rf (ee_run ee_B P d) lb_191_1)) ([some (.ref 236), some (.int v), some (.int 24)], w) = some (.inl ([some (.ref 236), some (.int v), some (.int (-8))], fd 240 236 4 (fd 240 236 4 (fd 240 236 4 (fd 240 236 4 w n (bt v 24)) (n + 1) (bt v 16)) (n + 1 + 1) (bt v 8)) (n + 1 + 1 + 1) (bt v 0))) := by
    rw [ee_wh_eq, t1]
    dsimp only
    rw [ee_wh_eq, show (v >>> ((24 : Int32) &&& 31)) &&& 255 = bt v 24 from rfl, t2]
    dsimp only
    rw [ee_wh_eq, show (v >>> ((16 : Int32) &&& 31)) &&& 255 = bt v 16 from rfl, t3]
    dsimp only
    rw [ee_wh_eq, show (v >>> ((8 : Int32) &&& 31)) &&& 255 = bt v 8 from rfl, t4]
    dsimp only
    rw [ee_wh_eq, t_191e (by decide)]
    rfl
  rw [rn_191 mz_0]
  simp only [w_while, hl, be_191, k_1, k_24, k_255, k_4294967288, nz_1, nz_24, nz_255, v_bin, v_get, v_int, v_loc, v_z, w_inc, w_opf, w_retv, w_seq, w_set, w_sto, List.getElem?_cons_zero, List.getElem?_cons_succ, List.set_cons_zero, List.set_cons_succ, ee_cmp0, ee_cmp1, ee_cmp2, ee_cmp3, ee_cmp4, ee_cmp5, ee_cmpL0, ee_cmpL1, ee_cmpL2, ee_cmpL3, ee_cmpL4, ee_cmpL5, ee_tru_eb, decide_eq_true_eq, ib_i, ie_b, ie_f, ie_t, ib_l, fin_i, fin_l, fin_v, fin_z, fin_a, fin_n, ee_b_0, ee_fld0, ee_fld1, ee_fld2, ee_fld3, bi_0, bi_1, bi_2, bi_3, bi_4, bi_5, bi_6, bi_7, bi_8, bi_9, bi_10, bl_20, bl_21, bl_22, bl_23, bl_24, bl_25, bl_26, bl_48, bl_49, un_0, un_1, un_2, un_3, if_true, if_false, ite_true, ite_false, Bool.false_eq_true, Bool.not_eq_false, decide_not, Bool.not_not, reduceCtorEq, st_i, st_l, st_r, st_n, ee_noL, ee_noL.eq_1, List.length_cons, List.length_nil, Nat.reduceAdd, Nat.reduceLT, Nat.zero_add, and_true, true_and, and_self, fin_ite, pu_0, pu_1, pu_3, sto_0, el_0, Bool.not_eq_true, decide_eq_false_iff_not, Bool.decide_eq_true, Bool.decide_eq_false, decide_true, decide_false, Bool.not_true, Bool.not_false, Bool.and_self, Bool.and_true, Bool.and_false, Bool.true_and, Bool.false_and, Bool.or_true, Bool.or_false, Bool.true_or, Bool.false_or, if_true, if_false, Bool.false_eq_true, ix_1, ix_24, ix_255, tc_1, tc_24, tc_255, mz_0, mz_1, mz_a, rvs, j_s, j_a, wI_at, Nat.reduceEqDiff, zero_ne_one_n, one_ne_zero_n]
theorem pfd_c {w' : ee_W} (h : chk (pfd 235 0 9) w w') : chg (fun c => decide (c = 235) || decide (c = 0)) w w' := ⟨fun c k hc => h.1 c k (fun z => by unfold pfd at z; simp at hc; omega), h.2⟩
theorem b_feed (hd : 4 ≤ d) (hS : Sim w) (a b c e g : Int32) : Both P d 12 190 [.int a, .int b, .int c, .int e, .int g] w := by
  obtain ⟨Z, h1, h2, h3⟩ := hS
  obtain ⟨d, rfl⟩ : ∃ k, d = k + 1 := ⟨d - 1, by omega⟩
  have hd1 : 1 ≤ d := by omega
  have hd2 : 2 ≤ d := by omega
  have e9 := h1.2.2.2.1.1
  have e4 := h2.2.2.2.1.1
  have l3 := h3.2.2.2.1
  obtain ⟨n, hn⟩ : ∃ n, Z.2.2.2.1.1 = n := ⟨_, rfl⟩
  rw [hn] at e9 e4 l3
  have q1 : (280 : Int32) < Int32.ofNat n ↔ 280 < n := j_lt (a := 280) (by omega) (by omega)
  have q2 : (300 : Int32) < Int32.ofNat n + 20 ↔ 280 < n := by
    rw [show Int32.ofNat n + 20 = Int32.ofNat (n + 20) from j_a n 20, show (300 : Int32) = Int32.ofNat 300 from rfl, j_lt (by omega) (by omega)]
    omega
  by_cases z : 280 < n
  · refine both_q h1 h2 h3 (r := .int (-1)) ?_ ?_
    · rw [rn_12 cz_0]
      simp only [cz_0, e9, q1, z, bd_12, k_280, k_4294967295, nz_280, v_call, v_cmp, v_cons, v_get, v_int, v_loc, v_nil, w_exp0, w_exp1, w_if, w_ret, w_seq, List.getElem?_cons_zero, List.getElem?_cons_succ, List.set_cons_zero, List.set_cons_succ, ee_cmp0, ee_cmp1, ee_cmp2, ee_cmp3, ee_cmp4, ee_cmp5, ee_cmpL0, ee_cmpL1, ee_cmpL2, ee_cmpL3, ee_cmpL4, ee_cmpL5, ee_tru_eb, decide_eq_true_eq, ib_i, ie_b, ie_f, ie_t, ib_l, fin_i, fin_l, fin_v, fin_z, fin_a, fin_n, ee_b_0, ee_fld0, ee_fld1, ee_fld2, ee_fld3, bi_0, bi_1, bi_2, bi_3, bi_4, bi_5, bi_6, bi_7, bi_8, bi_9, bi_10, bl_20, bl_21, bl_22, bl_23, bl_24, bl_25, bl_26, bl_48, bl_49, un_0, un_1, un_2, un_3, if_true, if_false, ite_true, ite_false, Bool.false_eq_true, Bool.not_eq_false, decide_not, Bool.not_not, reduceCtorEq, st_i, st_l, st_r, st_n, ee_noL, ee_noL.eq_1, List.length_cons, List.length_nil, Nat.reduceAdd, Nat.reduceLT, Nat.zero_add, and_true, true_and, and_self, fin_ite, pu_0, pu_1, pu_3, sto_0, el_0, Bool.not_eq_true, decide_eq_false_iff_not, Bool.decide_eq_true, Bool.decide_eq_false, decide_true, decide_false, Bool.not_true, Bool.not_false, Bool.and_self, Bool.and_true, Bool.and_false, Bool.true_and, Bool.false_and, Bool.or_true, Bool.or_false, Bool.true_or, Bool.false_or, if_true, if_false, Bool.false_eq_true]
    · rw [rn_190 mz_0]
      simp only [e4, q2, z, bd_190, k_20, k_300, k_4294967295, nz_20, nz_300, v_bin, v_call, v_cmp, v_cons, v_get, v_int, v_loc, v_nil, w_exp0, w_exp1, w_if, w_ret, w_seq, List.getElem?_cons_zero, List.getElem?_cons_succ, List.set_cons_zero, List.set_cons_succ, ee_cmp0, ee_cmp1, ee_cmp2, ee_cmp3, ee_cmp4, ee_cmp5, ee_cmpL0, ee_cmpL1, ee_cmpL2, ee_cmpL3, ee_cmpL4, ee_cmpL5, ee_tru_eb, decide_eq_true_eq, ib_i, ie_b, ie_f, ie_t, ib_l, fin_i, fin_l, fin_v, fin_z, fin_a, fin_n, ee_b_0, ee_fld0, ee_fld1, ee_fld2, ee_fld3, bi_0, bi_1, bi_2, bi_3, bi_4, bi_5, bi_6, bi_7, bi_8, bi_9, bi_10, bl_20, bl_21, bl_22, bl_23, bl_24, bl_25, bl_26, bl_48, bl_49, un_0, un_1, un_2, un_3, if_true, if_false, ite_true, ite_false, Bool.false_eq_true, Bool.not_eq_false, decide_not, Bool.not_not, reduceCtorEq, st_i, st_l, st_r, st_n, ee_noL, ee_noL.eq_1, List.length_cons, List.length_nil, Nat.reduceAdd, Nat.reduceLT, Nat.zero_add, and_true, true_and, and_self, fin_ite, pu_0, pu_1, pu_3, sto_0, el_0, Bool.not_eq_true, decide_eq_false_iff_not, Bool.decide_eq_true, Bool.decide_eq_false, decide_true, decide_false, Bool.not_true, Bool.not_false, Bool.and_self, Bool.and_true, Bool.and_false, Bool.true_and, Bool.false_and, Bool.or_true, Bool.or_false, Bool.true_or, Bool.false_or, if_true, if_false, Bool.false_eq_true, ix_20, ix_300, tc_20, tc_300, mz_0, mz_1, mz_a, rvs, j_s, j_a, wI_at, Nat.reduceEqDiff, zero_ne_one_n, one_ne_zero_n]
  · have hW : WZ (Z.1, Z.2.1, Z.2.2.1, (n + 20, f4 (f4 (f4 (f4 (f4 Z.2.2.2.1.2 n a) (n + 4) b) (n + 8) c) (n + 12) e) (n + 16) g), Z.2.2.2.2) := by
      obtain ⟨v1, v2, v3, v4, v5⟩ := h3
      rw [hn] at v5
      exact ⟨v1, v2, v3, by show n + 20 ≤ 300; omega, f4_b (f4_b (f4_b (f4_b (f4_b v5 a) b) c) e) g⟩
    refine both_of h2 h3 hW (r := .int (Int32.ofNat (n + 20))) ?_ ?_
    · obtain ⟨c1, c2, c3, c4, c6⟩ := h1
      rw [hn] at c4
      obtain ⟨w1, r1, s1, u1⟩ := c_four (P := P) hd2 (by omega) (show TP 235 0 9 w n Z.2.2.2.1.2 from c4) a
      obtain ⟨w2, r2, s2, u2⟩ := c_four (P := P) hd2 (by omega) s1 b
      obtain ⟨w3, r3, s3, u3⟩ := c_four (P := P) hd2 (by omega) s2 c
      obtain ⟨w4, r4, s4, u4⟩ := c_four (P := P) hd2 (by omega) s3 e
      obtain ⟨w5, r5, s5, u5⟩ := c_four (P := P) hd2 (by omega) s4 g
      have u := chk_trans u1 (chk_trans u2 (chk_trans u3 (chk_trans u4 u5)))
      have hc := pfd_c u
      refine ⟨w5, ?_, ⟨CA_chg c1 hc (fun c q1 q2 => by simp; omega), CA_chg c2 hc (fun c q1 q2 => by simp; omega), fun i hi h4 => CT_chg (c3 i hi h4) hc (fun c q1 q2 => by simp; omega), s5, ?_⟩, chg_mono hc (fun c h => by have := plo_f.1 h; simp; omega)⟩
      · have z5 : w5.1 0 9 = Int32.ofNat (n + 20) := s5.1
        rw [rn_12 cz_0]
        simp only [cz_0, e9, q1, z, r1, r2, r3, r4, r5, z5, bd_12, k_280, k_4294967295, nz_280, v_call, v_cmp, v_cons, v_get, v_int, v_loc, v_nil, w_exp0, w_exp1, w_if, w_ret, w_seq, List.getElem?_cons_zero, List.getElem?_cons_succ, List.set_cons_zero, List.set_cons_succ, ee_cmp0, ee_cmp1, ee_cmp2, ee_cmp3, ee_cmp4, ee_cmp5, ee_cmpL0, ee_cmpL1, ee_cmpL2, ee_cmpL3, ee_cmpL4, ee_cmpL5, ee_tru_eb, decide_eq_true_eq, ib_i, ie_b, ie_f, ie_t, ib_l, fin_i, fin_l, fin_v, fin_z, fin_a, fin_n, ee_b_0, ee_fld0, ee_fld1, ee_fld2, ee_fld3, bi_0, bi_1, bi_2, bi_3, bi_4, bi_5, bi_6, bi_7, bi_8, bi_9, bi_10, bl_20, bl_21, bl_22, bl_23, bl_24, bl_25, bl_26, bl_48, bl_49, un_0, un_1, un_2, un_3, if_true, if_false, ite_true, ite_false, Bool.false_eq_true, Bool.not_eq_false, decide_not, Bool.not_not, reduceCtorEq, st_i, st_l, st_r, st_n, ee_noL, ee_noL.eq_1, List.length_cons, List.length_nil, Nat.reduceAdd, Nat.reduceLT, Nat.zero_add, and_true, true_and, and_self, fin_ite, pu_0, pu_1, pu_3, sto_0, el_0, Bool.not_eq_true, decide_eq_false_iff_not, Bool.decide_eq_true, Bool.decide_eq_false, decide_true, decide_false, Bool.not_true, Bool.not_false, Bool.and_self, Bool.and_true, Bool.and_false, Bool.true_and, Bool.false_and, Bool.or_true, Bool.or_false, Bool.true_or, Bool.false_or, if_true, if_false, Bool.false_eq_true]
      · rw [u.1 _ _ (by unfold pfd; omega), u.1 _ _ (by unfold pfd; omega), u.1 _ _ (by unfold pfd; omega)]; exact c6
    · intro w1 hM
      obtain ⟨c1, c2, c3, c4, ⟨c6, c7⟩, c8⟩ := hM
      rw [hn] at c4
      obtain ⟨x1, r1, s1, u1⟩ := m_four (P := P) hd1 (by omega) (show TP 240 236 4 w1 n Z.2.2.2.1.2 from c4) a
      obtain ⟨x2, r2, s2, u2⟩ := m_four (P := P) hd1 (by omega) s1 b
      obtain ⟨x3, r3, s3, u3⟩ := m_four (P := P) hd1 (by omega) s2 c
      obtain ⟨x4, r4, s4, u4⟩ := m_four (P := P) hd1 (by omega) s3 e
      obtain ⟨x5, r5, s5, u5⟩ := m_four (P := P) hd1 (by omega) s4 g
      have u := chk_trans u1 (chk_trans u2 (chk_trans u3 (chk_trans u4 u5)))
      have k4 := c4.1
      refine ⟨x5, ?_, ⟨MA_eq c1 h3.1 (fun j _ => u.1 _ _ (by unfold pfd; omega)), MA_eq c2 h3.2.1 (fun j _ => u.1 _ _ (by unfold pfd; omega)), fun i hi h4 => MT_eq (c3 i hi h4) (fun j => u.1 _ _ (by unfold pfd; omega)), s5, ⟨?_, ?_⟩, ?_⟩, chk_mono u (fun c k h => by unfold pfd at h; unfold phi; omega)⟩
      · have z5 : x5.1 236 4 = Int32.ofNat (n + 20) := s5.1
        rw [rn_190 mz_0]
        simp only [k4, q2, z, r1, r2, r3, r4, r5, z5, bd_190, k_20, k_300, k_4294967295, nz_20, nz_300, v_bin, v_call, v_cmp, v_cons, v_get, v_int, v_loc, v_nil, w_exp0, w_exp1, w_if, w_ret, w_seq, List.getElem?_cons_zero, List.getElem?_cons_succ, List.set_cons_zero, List.set_cons_succ, ee_cmp0, ee_cmp1, ee_cmp2, ee_cmp3, ee_cmp4, ee_cmp5, ee_cmpL0, ee_cmpL1, ee_cmpL2, ee_cmpL3, ee_cmpL4, ee_cmpL5, ee_tru_eb, decide_eq_true_eq, ib_i, ie_b, ie_f, ie_t, ib_l, fin_i, fin_l, fin_v, fin_z, fin_a, fin_n, ee_b_0, ee_fld0, ee_fld1, ee_fld2, ee_fld3, bi_0, bi_1, bi_2, bi_3, bi_4, bi_5, bi_6, bi_7, bi_8, bi_9, bi_10, bl_20, bl_21, bl_22, bl_23, bl_24, bl_25, bl_26, bl_48, bl_49, un_0, un_1, un_2, un_3, if_true, if_false, ite_true, ite_false, Bool.false_eq_true, Bool.not_eq_false, decide_not, Bool.not_not, reduceCtorEq, st_i, st_l, st_r, st_n, ee_noL, ee_noL.eq_1, List.length_cons, List.length_nil, Nat.reduceAdd, Nat.reduceLT, Nat.zero_add, and_true, true_and, and_self, fin_ite, pu_0, pu_1, pu_3, sto_0, el_0, Bool.not_eq_true, decide_eq_false_iff_not, Bool.decide_eq_true, Bool.decide_eq_false, decide_true, decide_false, Bool.not_true, Bool.not_false, Bool.and_self, Bool.and_true, Bool.and_false, Bool.true_and, Bool.false_and, Bool.or_true, Bool.or_false, Bool.true_or, Bool.false_or, if_true, if_false, Bool.false_eq_true, ix_20, ix_300, tc_20, tc_300, mz_0, mz_1, mz_a, rvs, j_s, j_a, wI_at, Nat.reduceEqDiff, zero_ne_one_n, one_ne_zero_n]
      · rw [u.1 _ _ (by unfold pfd; omega)]; exact c6
      · rw [u.1 _ _ (by unfold pfd; omega)]; exact c7
      · rw [u.1 _ _ (by unfold pfd; omega)]; exact c8
end BFE
