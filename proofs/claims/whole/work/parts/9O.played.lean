/-! played on both sides -/
section BPY
variable {P : Nat → Nat → List Value → ee_W → Option (List Value × ee_W)} {d : Nat} {w : ee_W} {Z : ZX}
theorem itz_k (Z : ZX) : ∀ k, nT (itz k Z).1 = nT Z.1 ∧ (itz k Z).2.2.1 = Z.2.2.1 := by
  intro k
  induction k with
  | zero => exact ⟨rfl, rfl⟩
  | succ k ih => exact ih
theorem c_passneg (hd : 1 ≤ d) {v : Int32} (hv : v.toInt < 0) : ee_run ee_B P d 79 [.ref 0, .int v] w = some ([], w) := by
  obtain ⟨d, rfl⟩ : ∃ k, d = k + 1 := ⟨d - 1, by omega⟩
  have h9 : ¬ (0 : Int32) < v := fun z => by
    have := i32_lt.1 z
    rw [show (0 : Int32).toInt = 0 from rfl] at this
    omega
  have hl : ee_wh (ee_turn (ee_ev es_sh es_rf (ee_run ee_B P d) lx_79_1) (ee_evS es_sh es_rf (ee_run ee_B P d) lb_79_1)) ([some (.ref 0), some (.int v), some (.int 0)], w) = some (.inl ([some (.ref 0), some (.int v), some (.int 0)], w)) := by
    have e : ee_turn (ee_ev es_sh es_rf (ee_run ee_B P d) lx_79_1) (ee_evS es_sh es_rf (ee_run ee_B P d) lb_79_1) ([some (.ref 0), some (.int v), some (.int 0)], w) = some (.inr (.inl ([some (.ref 0), some (.int v), some (.int 0)], w))) := by
      simp only [h9, lx_79_1, lb_79_1, ee_turn, k_0, v_call, v_cmp, v_cons, v_get, v_int, v_loc, v_nil, w_exp0, w_exp1, w_inc, w_retv, w_seq, w_set, List.getElem?_cons_zero, List.getElem?_cons_succ, List.set_cons_zero, List.set_cons_succ, ee_cmp0, ee_cmp1, ee_cmp2, ee_cmp3, ee_cmp4, ee_cmp5, ee_cmpL0, ee_cmpL1, ee_cmpL2, ee_cmpL3, ee_cmpL4, ee_cmpL5, ee_tru_eb, decide_eq_true_eq, ib_i, ie_b, ie_f, ie_t, ib_l, fin_i, fin_l, fin_v, fin_z, fin_a, fin_n, ee_b_0, ee_fld0, ee_fld1, ee_fld2, ee_fld3, bi_0, bi_1, bi_2, bi_3, bi_4, bi_5, bi_6, bi_7, bi_8, bi_9, bi_10, bl_20, bl_21, bl_22, bl_23, bl_24, bl_25, bl_26, bl_48, bl_49, un_0, un_1, un_2, un_3, if_true, if_false, ite_true, ite_false, Bool.false_eq_true, Bool.not_eq_false, decide_not, Bool.not_not, reduceCtorEq, st_i, st_l, st_r, st_n, ee_noL, ee_noL.eq_1, List.length_cons, List.length_nil, Nat.reduceAdd, Nat.reduceLT, Nat.zero_add, and_true, true_and, and_self, fin_ite, pu_0, pu_1, pu_3, sto_0, el_0, Bool.not_eq_true, decide_eq_false_iff_not, Bool.decide_eq_true, Bool.decide_eq_false, decide_true, decide_false, Bool.not_true, Bool.not_false, Bool.and_self, Bool.and_true, Bool.and_false, Bool.true_and, Bool.false_and, Bool.or_true, Bool.or_false, Bool.true_or, Bool.false_or, if_true, if_false, Bool.false_eq_true]
    rw [ee_wh_eq, e]
  rw [rn_79 cz_0]
  simp only [w_while, hl, be_79, k_0, v_call, v_cmp, v_cons, v_get, v_int, v_loc, v_nil, w_exp0, w_exp1, w_inc, w_retv, w_seq, w_set, List.getElem?_cons_zero, List.getElem?_cons_succ, List.set_cons_zero, List.set_cons_succ, ee_cmp0, ee_cmp1, ee_cmp2, ee_cmp3, ee_cmp4, ee_cmp5, ee_cmpL0, ee_cmpL1, ee_cmpL2, ee_cmpL3, ee_cmpL4, ee_cmpL5, ee_tru_eb, decide_eq_true_eq, ib_i, ie_b, ie_f, ie_t, ib_l, fin_i, fin_l, fin_v, fin_z, fin_a, fin_n, ee_b_0, ee_fld0, ee_fld1, ee_fld2, ee_fld3, bi_0, bi_1, bi_2, bi_3, bi_4, bi_5, bi_6, bi_7, bi_8, bi_9, bi_10, bl_20, bl_21, bl_22, bl_23, bl_24, bl_25, bl_26, bl_48, bl_49, un_0, un_1, un_2, un_3, if_true, if_false, ite_true, ite_false, Bool.false_eq_true, Bool.not_eq_false, decide_not, Bool.not_not, reduceCtorEq, st_i, st_l, st_r, st_n, ee_noL, ee_noL.eq_1, List.length_cons, List.length_nil, Nat.reduceAdd, Nat.reduceLT, Nat.zero_add, and_true, true_and, and_self, fin_ite, pu_0, pu_1, pu_3, sto_0, el_0, Bool.not_eq_true, decide_eq_false_iff_not, Bool.decide_eq_true, Bool.decide_eq_false, decide_true, decide_false, Bool.not_true, Bool.not_false, Bool.and_self, Bool.and_true, Bool.and_false, Bool.true_and, Bool.false_and, Bool.or_true, Bool.or_false, Bool.true_or, Bool.false_or, if_true, if_false, Bool.false_eq_true]
theorem m_passneg (hd : 1 ≤ d) {v : Int32} (hv : v.toInt < 0) : ee_run ee_B P d 246 [.ref 236, .int v] w = some ([.int 1], w) := by
  obtain ⟨d, rfl⟩ : ∃ k, d = k + 1 := ⟨d - 1, by omega⟩
  have h9 : ¬ (0 : Int32) < v := fun z => by
    have := i32_lt.1 z
    rw [show (0 : Int32).toInt = 0 from rfl] at this
    omega
  have hl : ee_wh (ee_turn (ee_ev es_sh es_rf (ee_run ee_B P d) lx_246_1) (ee_evS es_sh es_rf (ee_run ee_B P d) lb_246_1)) ([some (.ref 236), some (.int v), some (.int 0)], w) = some (.inl ([some (.ref 236), some (.int v), some (.int 0)], w)) := by
    have e : ee_turn (ee_ev es_sh es_rf (ee_run ee_B P d) lx_246_1) (ee_evS es_sh es_rf (ee_run ee_B P d) lb_246_1) ([some (.ref 236), some (.int v), some (.int 0)], w) = some (.inr (.inl ([some (.ref 236), some (.int v), some (.int 0)], w))) := by
      simp only [h9, lx_246_1, lb_246_1, ee_turn, k_0, k_1, k_5, k_9999, nz_1, nz_5, nz_9999, v_call, v_cmp, v_cons, v_get, v_idx, v_int, v_loc, v_nil, w_exp0, w_exp1, w_if, w_inc, w_ret, w_seq, w_set, List.getElem?_cons_zero, List.getElem?_cons_succ, List.set_cons_zero, List.set_cons_succ, ee_cmp0, ee_cmp1, ee_cmp2, ee_cmp3, ee_cmp4, ee_cmp5, ee_cmpL0, ee_cmpL1, ee_cmpL2, ee_cmpL3, ee_cmpL4, ee_cmpL5, ee_tru_eb, decide_eq_true_eq, ib_i, ie_b, ie_f, ie_t, ib_l, fin_i, fin_l, fin_v, fin_z, fin_a, fin_n, ee_b_0, ee_fld0, ee_fld1, ee_fld2, ee_fld3, bi_0, bi_1, bi_2, bi_3, bi_4, bi_5, bi_6, bi_7, bi_8, bi_9, bi_10, bl_20, bl_21, bl_22, bl_23, bl_24, bl_25, bl_26, bl_48, bl_49, un_0, un_1, un_2, un_3, if_true, if_false, ite_true, ite_false, Bool.false_eq_true, Bool.not_eq_false, decide_not, Bool.not_not, reduceCtorEq, st_i, st_l, st_r, st_n, ee_noL, ee_noL.eq_1, List.length_cons, List.length_nil, Nat.reduceAdd, Nat.reduceLT, Nat.zero_add, and_true, true_and, and_self, fin_ite, pu_0, pu_1, pu_3, sto_0, el_0, Bool.not_eq_true, decide_eq_false_iff_not, Bool.decide_eq_true, Bool.decide_eq_false, decide_true, decide_false, Bool.not_true, Bool.not_false, Bool.and_self, Bool.and_true, Bool.and_false, Bool.true_and, Bool.false_and, Bool.or_true, Bool.or_false, Bool.true_or, Bool.false_or, if_true, if_false, Bool.false_eq_true, tc_0, ix_0, tc_1, ix_1, tc_5, ix_5, tc_9999, ix_9999, mz_0, mz_1, mz_a, rvs, j_s, j_a, wI_at, Nat.reduceEqDiff, zero_ne_one_n, one_ne_zero_n]
    rw [ee_wh_eq, e]
  rw [rn_246 mz_0]
  simp only [w_while, hl, be_246, k_0, k_1, k_5, k_9999, nz_1, nz_5, nz_9999, v_call, v_cmp, v_cons, v_get, v_idx, v_int, v_loc, v_nil, w_exp0, w_exp1, w_if, w_inc, w_ret, w_seq, w_set, List.getElem?_cons_zero, List.getElem?_cons_succ, List.set_cons_zero, List.set_cons_succ, ee_cmp0, ee_cmp1, ee_cmp2, ee_cmp3, ee_cmp4, ee_cmp5, ee_cmpL0, ee_cmpL1, ee_cmpL2, ee_cmpL3, ee_cmpL4, ee_cmpL5, ee_tru_eb, decide_eq_true_eq, ib_i, ie_b, ie_f, ie_t, ib_l, fin_i, fin_l, fin_v, fin_z, fin_a, fin_n, ee_b_0, ee_fld0, ee_fld1, ee_fld2, ee_fld3, bi_0, bi_1, bi_2, bi_3, bi_4, bi_5, bi_6, bi_7, bi_8, bi_9, bi_10, bl_20, bl_21, bl_22, bl_23, bl_24, bl_25, bl_26, bl_48, bl_49, un_0, un_1, un_2, un_3, if_true, if_false, ite_true, ite_false, Bool.false_eq_true, Bool.not_eq_false, decide_not, Bool.not_not, reduceCtorEq, st_i, st_l, st_r, st_n, ee_noL, ee_noL.eq_1, List.length_cons, List.length_nil, Nat.reduceAdd, Nat.reduceLT, Nat.zero_add, and_true, true_and, and_self, fin_ite, pu_0, pu_1, pu_3, sto_0, el_0, Bool.not_eq_true, decide_eq_false_iff_not, Bool.decide_eq_true, Bool.decide_eq_false, decide_true, decide_false, Bool.not_true, Bool.not_false, Bool.and_self, Bool.and_true, Bool.and_false, Bool.true_and, Bool.false_and, Bool.or_true, Bool.or_false, Bool.true_or, Bool.false_or, if_true, if_false, Bool.false_eq_true, ix_0, ix_1, ix_5, ix_9999, tc_0, tc_1, tc_5, tc_9999, mz_0, mz_1, mz_a, rvs, j_s, j_a, wI_at, Nat.reduceEqDiff, zero_ne_one_n, one_ne_zero_n]
  rfl
/-- DAY as a clause -/
theorem s_pass (hd : 11 ≤ d) (h3 : WZ Z) (v : Int32) : ∃ Z' b, WZ Z' ∧ (nT Z'.1 = nT Z.1 ∧ Z'.2.2.1 = Z.2.2.1) ∧
    (∀ w, CZ w Z → ∃ w' can, (if v ≤ 9999 - w.1 2 7 then v else 9999 - w.1 2 7) = can ∧ decide (can = v) = b ∧ ee_run ee_B P d 79 [.ref 0, .int can] w = some ([], w') ∧ CZ w' Z' ∧ chg plo w w') ∧
    (∀ w, MZ w Z → ∃ w', ee_run ee_B P d 246 [.ref 236, .int v] w = some ([.int (ee_b b)], w') ∧ MZ w' Z' ∧ chk phi w w') := by
  have c0 := h3.1.1.1.1.1
  have c9 := h3.1.1.2.2.1
  have e9 : ((9999 : Int32) - Z.1.1.1 0).toInt = 9999 - (Z.1.1.1 0).toInt := by
    rw [i32_sub (by rw [show (9999 : Int32).toInt = 9999 from rfl]; omega) (by rw [show (9999 : Int32).toInt = 9999 from rfl]; omega), show (9999 : Int32).toInt = 9999 from rfl]
  by_cases hv : v.toInt < 0
  · refine ⟨Z, true, h3, ⟨rfl, rfl⟩, fun w h1 => ⟨w, v, ?_, decide_eq_true rfl, c_passneg (by omega) hv, h1, chg_refl _ _⟩, fun w hM => ⟨w, m_passneg (by omega) hv, hM, chk_refl _ _⟩⟩
    have h7 : w.1 2 7 = Z.1.1.1 0 := h1.1.1.1.1
    rw [h7, if_pos (by rw [i32_le, e9]; omega)]
  · have ev := ofN (x := v) (by omega)
    have ht := Int32.toInt_lt v
    obtain ⟨n, hn⟩ : ∃ n, v.toInt.toNat = n := ⟨_, rfl⟩
    rw [hn] at ev
    have n31 : n < 2147483648 := by omega
    obtain ⟨c, hc⟩ : ∃ c : Nat, (Z.1.1.1 0).toInt + c = 9999 := ⟨(9999 - (Z.1.1.1 0).toInt).toNat, by omega⟩
    have ec : (9999 : Int32) - Z.1.1.1 0 = Int32.ofNat c := by
      rw [i32_eq, e9, nI_t (by omega)]; omega
    refine ⟨itz (min n c) Z, decide (n ≤ c), (itz_0 Z (min n c) (by omega) h3).1, itz_k Z _, fun w h1 => ?_, fun w hM => ?_⟩
    · have h7 : w.1 2 7 = Z.1.1.1 0 := h1.1.1.1.1
      obtain ⟨w', p1, p2, p3⟩ := c_pass (P := P) (w := w) (d := d) (by omega) h1 h3 (n := min n c) (by omega)
      refine ⟨w', Int32.ofNat (min n c), ?_, ?_, p1, p2, chg_mono p3 hm_lo⟩
      · rw [h7, ec, ev]
        by_cases y : n ≤ c
        · rw [if_pos ((j_le (by omega) (by omega)).2 y), show min n c = n by omega]
        · rw [if_neg (fun z => y ((j_le (by omega) (by omega)).1 z)), show min n c = c by omega]
      · rw [ev]
        have : (Int32.ofNat (min n c) = Int32.ofNat n) ↔ n ≤ c := by
          rw [i32_eq, nI_t (by omega), nI_t (by omega)]; omega
        by_cases y : n ≤ c
        · rw [decide_eq_true y, decide_eq_true (this.2 y)]
        · rw [decide_eq_false y, decide_eq_false (fun z => y (this.1 z))]
    · obtain ⟨w', p1, p2, p3⟩ := m_passed (P := P) (w := w) (d := d) hd hM h3 n31 hc
      rw [ev]
      exact ⟨w', p1, p2, chk_mono p3 pst_hi⟩
def clz (t i : Nat) : Nat := 681 * t + 1 + 3 * i
theorem s_clause (hd : 12 ≤ d) (h3 : WZ Z) {t i q : Nat} {T : TX} (ht : t < nT Z.1) (ht4 : t < 4) (hT : Z.2.2.1 t = T) (hi : i < T.1.1) (h24 : T.1.1 ≤ 24) (hq : q ≤ 7) (eq : (T.1.2 i).1 = Int32.ofNat q) :
    ∃ Z' b, WZ Z' ∧ (nT Z'.1 = nT Z.1 ∧ Z'.2.2.1 = Z.2.2.1) ∧
    (∀ w, CZ w Z → ∃ w', ee_run ee_B P d 102 [.ref 0, .int (Int32.ofNat q), .int (T.1.2 i).2.1, .int (T.1.2 i).2.2] w = some ([.int (ee_b b)], w') ∧ CZ w' Z' ∧ chg plo w w') ∧
    (∀ w, MZ w Z → ∃ w', ee_run ee_B P d 267 [.ref 236, .int (Int32.ofNat (clz t i))] w = some ([.int (ee_b b)], w') ∧ MZ w' Z' ∧ chk phi w w') := by
  obtain ⟨d, rfl⟩ : ∃ k, d = k + 1 := ⟨d - 1, by omega⟩
  have hd1 : 1 ≤ d := by omega
  have hd4 : 4 ≤ d := by omega
  have hd11 : 11 ≤ d := by omega
  have xb : clz t i + 2 < 2724 := by unfold clz; omega
  have i0 : ee_ix (Int32.ofNat (clz t i)) 2724 = true := by rw [ixn (by omega)]; exact decide_eq_true (by omega)
  have i1 : ee_ix (Int32.ofNat (clz t i + 1)) 2724 = true := by rw [ixn (by omega)]; exact decide_eq_true (by omega)
  have i2 : ee_ix (Int32.ofNat (clz t i + 2)) 2724 = true := by rw [ixn (by omega)]; exact decide_eq_true (by omega)
  have t0 := tnc (n := clz t i) (by omega)
  have t1 := tnc (n := clz t i + 1) (by omega)
  have t2 := tnc (n := clz t i + 2) (by omega)
  have e2 : Int32.ofNat (clz t i) + 2 = Int32.ofNat (clz t i + 2) := j_a _ 2
  have hm : ∀ w, MZ w Z → w.1 239 (clz t i) = Int32.ofNat q ∧ ((q = 2 ∨ q = 3 ∨ q = 4 ∨ q = 5 ∨ q = 7) → w.1 239 (clz t i + 1) = (T.1.2 i).2.1) ∧ (q = 2 → w.1 239 (clz t i + 2) = (T.1.2 i).2.2) := by
    intro w hM
    have a := hM.2.2.1 t ht ht4
    rw [hT] at a
    obtain ⟨q', a1, a2, a3, a4, a5⟩ := a.2.2.1 i hi
    have eqq : q' = q := by
      rw [eq] at a2
      have := i32_eq.1 a2
      rw [nI_t (by omega), nI_t (by omega)] at this
      omega
    subst eqq
    exact ⟨a3, a4, a5⟩
  generalize clz t i = x at *
  generalize (T.1.2 i).2.1 = f at *
  generalize (T.1.2 i).2.2 = s at *
  have : q = 0 ∨ q = 1 ∨ q = 2 ∨ q = 3 ∨ q = 4 ∨ q = 5 ∨ q = 6 ∨ q = 7 := by omega
  rcases this with rfl | rfl | rfl | rfl | rfl | rfl | rfl | rfl
  · refine ⟨Z, true, h3, ⟨rfl, rfl⟩, fun w h1 => ⟨w, ?_, h1, chg_refl _ _⟩, fun w hM => ⟨w, ?_, hM, chk_refl _ _⟩⟩
    · rw [rn_102 cz_0]
      simp +decide only [memc, memn, bd_102, k_1, k_4294967295, k_9999, nz_1, nz_9999, v_bin, v_call, v_cmp, v_cons, v_get, v_int, v_loc, v_mat, v_nil, w_case, w_dflt, w_exp0, w_exp1, w_ret, w_seq, w_set, w_switch, List.getElem?_cons_zero, List.getElem?_cons_succ, List.set_cons_zero, List.set_cons_succ, ee_cmp0, ee_cmp1, ee_cmp2, ee_cmp3, ee_cmp4, ee_cmp5, ee_cmpL0, ee_cmpL1, ee_cmpL2, ee_cmpL3, ee_cmpL4, ee_cmpL5, ee_tru_eb, decide_eq_true_eq, ib_i, ie_b, ie_f, ie_t, ib_l, fin_i, fin_l, fin_v, fin_z, fin_a, fin_n, ee_b_0, ee_fld0, ee_fld1, ee_fld2, ee_fld3, bi_0, bi_1, bi_2, bi_3, bi_4, bi_5, bi_6, bi_7, bi_8, bi_9, bi_10, bl_20, bl_21, bl_22, bl_23, bl_24, bl_25, bl_26, bl_48, bl_49, un_0, un_1, un_2, un_3, if_true, if_false, ite_true, ite_false, Bool.false_eq_true, Bool.not_eq_false, decide_not, Bool.not_not, reduceCtorEq, st_i, st_l, st_r, st_n, ee_noL, ee_noL.eq_1, List.length_cons, List.length_nil, Nat.reduceAdd, Nat.reduceLT, Nat.zero_add, and_true, true_and, and_self, fin_ite, pu_0, pu_1, pu_3, sto_0, el_0, Bool.not_eq_true, decide_eq_false_iff_not, Bool.decide_eq_true, Bool.decide_eq_false, decide_true, decide_false, Bool.not_true, Bool.not_false, Bool.and_self, Bool.and_true, Bool.and_false, Bool.true_and, Bool.false_and, Bool.or_true, Bool.or_false, Bool.true_or, Bool.false_or, if_true, if_false, Bool.false_eq_true]
      rfl
    · obtain ⟨c0, -, -⟩ := hm w hM
      rw [rn_267 mz_0]
      simp +decide only [i0, i1, t0, t1, c0, memc, memn, mz_t, mz_ts, bd_267, k_1, k_2, nz_1, nz_2, v_bin, v_call, v_cons, v_get, v_idx, v_int, v_loc, v_mat, v_nil, v_z, w_case, w_dflt, w_ret, w_seq, w_set, w_switch, List.getElem?_cons_zero, List.getElem?_cons_succ, List.set_cons_zero, List.set_cons_succ, ee_cmp0, ee_cmp1, ee_cmp2, ee_cmp3, ee_cmp4, ee_cmp5, ee_cmpL0, ee_cmpL1, ee_cmpL2, ee_cmpL3, ee_cmpL4, ee_cmpL5, ee_tru_eb, decide_eq_true_eq, ib_i, ie_b, ie_f, ie_t, ib_l, fin_i, fin_l, fin_v, fin_z, fin_a, fin_n, ee_b_0, ee_fld0, ee_fld1, ee_fld2, ee_fld3, bi_0, bi_1, bi_2, bi_3, bi_4, bi_5, bi_6, bi_7, bi_8, bi_9, bi_10, bl_20, bl_21, bl_22, bl_23, bl_24, bl_25, bl_26, bl_48, bl_49, un_0, un_1, un_2, un_3, if_true, if_false, ite_true, ite_false, Bool.false_eq_true, Bool.not_eq_false, decide_not, Bool.not_not, reduceCtorEq, st_i, st_l, st_r, st_n, ee_noL, ee_noL.eq_1, List.length_cons, List.length_nil, Nat.reduceAdd, Nat.reduceLT, Nat.zero_add, and_true, true_and, and_self, fin_ite, pu_0, pu_1, pu_3, sto_0, el_0, Bool.not_eq_true, decide_eq_false_iff_not, Bool.decide_eq_true, Bool.decide_eq_false, decide_true, decide_false, Bool.not_true, Bool.not_false, Bool.and_self, Bool.and_true, Bool.and_false, Bool.true_and, Bool.false_and, Bool.or_true, Bool.or_false, Bool.true_or, Bool.false_or, if_true, if_false, Bool.false_eq_true, ix_1, ix_2, tc_1, tc_2, mz_0, mz_1, mz_a, rvs, j_s, j_a, wI_at, Nat.reduceEqDiff, zero_ne_one_n, one_ne_zero_n]
      rfl
  · refine ⟨Z, true, h3, ⟨rfl, rfl⟩, fun w h1 => ⟨w, ?_, h1, chg_refl _ _⟩, fun w hM => ⟨w, ?_, hM, chk_refl _ _⟩⟩
    · rw [rn_102 cz_0]
      simp +decide only [memc, memn, bd_102, k_1, k_4294967295, k_9999, nz_1, nz_9999, v_bin, v_call, v_cmp, v_cons, v_get, v_int, v_loc, v_mat, v_nil, w_case, w_dflt, w_exp0, w_exp1, w_ret, w_seq, w_set, w_switch, List.getElem?_cons_zero, List.getElem?_cons_succ, List.set_cons_zero, List.set_cons_succ, ee_cmp0, ee_cmp1, ee_cmp2, ee_cmp3, ee_cmp4, ee_cmp5, ee_cmpL0, ee_cmpL1, ee_cmpL2, ee_cmpL3, ee_cmpL4, ee_cmpL5, ee_tru_eb, decide_eq_true_eq, ib_i, ie_b, ie_f, ie_t, ib_l, fin_i, fin_l, fin_v, fin_z, fin_a, fin_n, ee_b_0, ee_fld0, ee_fld1, ee_fld2, ee_fld3, bi_0, bi_1, bi_2, bi_3, bi_4, bi_5, bi_6, bi_7, bi_8, bi_9, bi_10, bl_20, bl_21, bl_22, bl_23, bl_24, bl_25, bl_26, bl_48, bl_49, un_0, un_1, un_2, un_3, if_true, if_false, ite_true, ite_false, Bool.false_eq_true, Bool.not_eq_false, decide_not, Bool.not_not, reduceCtorEq, st_i, st_l, st_r, st_n, ee_noL, ee_noL.eq_1, List.length_cons, List.length_nil, Nat.reduceAdd, Nat.reduceLT, Nat.zero_add, and_true, true_and, and_self, fin_ite, pu_0, pu_1, pu_3, sto_0, el_0, Bool.not_eq_true, decide_eq_false_iff_not, Bool.decide_eq_true, Bool.decide_eq_false, decide_true, decide_false, Bool.not_true, Bool.not_false, Bool.and_self, Bool.and_true, Bool.and_false, Bool.true_and, Bool.false_and, Bool.or_true, Bool.or_false, Bool.true_or, Bool.false_or, if_true, if_false, Bool.false_eq_true]
      rfl
    · obtain ⟨c0, -, -⟩ := hm w hM
      rw [rn_267 mz_0]
      simp +decide only [i0, i1, t0, t1, c0, memc, memn, mz_t, mz_ts, bd_267, k_1, k_2, nz_1, nz_2, v_bin, v_call, v_cons, v_get, v_idx, v_int, v_loc, v_mat, v_nil, v_z, w_case, w_dflt, w_ret, w_seq, w_set, w_switch, List.getElem?_cons_zero, List.getElem?_cons_succ, List.set_cons_zero, List.set_cons_succ, ee_cmp0, ee_cmp1, ee_cmp2, ee_cmp3, ee_cmp4, ee_cmp5, ee_cmpL0, ee_cmpL1, ee_cmpL2, ee_cmpL3, ee_cmpL4, ee_cmpL5, ee_tru_eb, decide_eq_true_eq, ib_i, ie_b, ie_f, ie_t, ib_l, fin_i, fin_l, fin_v, fin_z, fin_a, fin_n, ee_b_0, ee_fld0, ee_fld1, ee_fld2, ee_fld3, bi_0, bi_1, bi_2, bi_3, bi_4, bi_5, bi_6, bi_7, bi_8, bi_9, bi_10, bl_20, bl_21, bl_22, bl_23, bl_24, bl_25, bl_26, bl_48, bl_49, un_0, un_1, un_2, un_3, if_true, if_false, ite_true, ite_false, Bool.false_eq_true, Bool.not_eq_false, decide_not, Bool.not_not, reduceCtorEq, st_i, st_l, st_r, st_n, ee_noL, ee_noL.eq_1, List.length_cons, List.length_nil, Nat.reduceAdd, Nat.reduceLT, Nat.zero_add, and_true, true_and, and_self, fin_ite, pu_0, pu_1, pu_3, sto_0, el_0, Bool.not_eq_true, decide_eq_false_iff_not, Bool.decide_eq_true, Bool.decide_eq_false, decide_true, decide_false, Bool.not_true, Bool.not_false, Bool.and_self, Bool.and_true, Bool.and_false, Bool.true_and, Bool.false_and, Bool.or_true, Bool.or_false, Bool.true_or, Bool.false_or, if_true, if_false, Bool.false_eq_true, ix_1, ix_2, tc_1, tc_2, mz_0, mz_1, mz_a, rvs, j_s, j_a, wI_at, Nat.reduceEqDiff, zero_ne_one_n, one_ne_zero_n]
      rfl
  · obtain ⟨Z', r, ⟨b, rfl⟩, hW, hK, hC, hM⟩ := s_wobble (P := P) hd4 h3 f s
    refine ⟨Z', b, hW, hK, fun w h1 => ?_, fun w hM1 => ?_⟩
    · obtain ⟨w', p1, p2, p3⟩ := hC w h1
      refine ⟨w', ?_, p2, p3⟩
      rw [rn_102 cz_0]
      cases b <;> simp +decide only [p1, memc, memn, bd_102, k_1, k_4294967295, k_9999, nz_1, nz_9999, v_bin, v_call, v_cmp, v_cons, v_get, v_int, v_loc, v_mat, v_nil, w_case, w_dflt, w_exp0, w_exp1, w_ret, w_seq, w_set, w_switch, List.getElem?_cons_zero, List.getElem?_cons_succ, List.set_cons_zero, List.set_cons_succ, ee_cmp0, ee_cmp1, ee_cmp2, ee_cmp3, ee_cmp4, ee_cmp5, ee_cmpL0, ee_cmpL1, ee_cmpL2, ee_cmpL3, ee_cmpL4, ee_cmpL5, ee_tru_eb, decide_eq_true_eq, ib_i, ie_b, ie_f, ie_t, ib_l, fin_i, fin_l, fin_v, fin_z, fin_a, fin_n, ee_b_0, ee_fld0, ee_fld1, ee_fld2, ee_fld3, bi_0, bi_1, bi_2, bi_3, bi_4, bi_5, bi_6, bi_7, bi_8, bi_9, bi_10, bl_20, bl_21, bl_22, bl_23, bl_24, bl_25, bl_26, bl_48, bl_49, un_0, un_1, un_2, un_3, if_true, if_false, ite_true, ite_false, Bool.false_eq_true, Bool.not_eq_false, decide_not, Bool.not_not, reduceCtorEq, st_i, st_l, st_r, st_n, ee_noL, ee_noL.eq_1, List.length_cons, List.length_nil, Nat.reduceAdd, Nat.reduceLT, Nat.zero_add, and_true, true_and, and_self, fin_ite, pu_0, pu_1, pu_3, sto_0, el_0, Bool.not_eq_true, decide_eq_false_iff_not, Bool.decide_eq_true, Bool.decide_eq_false, decide_true, decide_false, Bool.not_true, Bool.not_false, Bool.and_self, Bool.and_true, Bool.and_false, Bool.true_and, Bool.false_and, Bool.or_true, Bool.or_false, Bool.true_or, Bool.false_or, if_true, if_false, Bool.false_eq_true]
    · obtain ⟨w', p1, p2, p3⟩ := hM w hM1
      obtain ⟨c0, c1, c2⟩ := hm w hM1
      have c1 := c1 (by omega)
      have c2 := c2 rfl
      refine ⟨w', ?_, p2, p3⟩
      rw [rn_267 mz_0]
      cases b <;> simp +decide only [i0, i1, i2, t0, t1, t2, e2, c0, c1, c2, p1, memc, memn, mz_t, mz_ts, bd_267, k_1, k_2, nz_1, nz_2, v_bin, v_call, v_cons, v_get, v_idx, v_int, v_loc, v_mat, v_nil, v_z, w_case, w_dflt, w_ret, w_seq, w_set, w_switch, List.getElem?_cons_zero, List.getElem?_cons_succ, List.set_cons_zero, List.set_cons_succ, ee_cmp0, ee_cmp1, ee_cmp2, ee_cmp3, ee_cmp4, ee_cmp5, ee_cmpL0, ee_cmpL1, ee_cmpL2, ee_cmpL3, ee_cmpL4, ee_cmpL5, ee_tru_eb, decide_eq_true_eq, ib_i, ie_b, ie_f, ie_t, ib_l, fin_i, fin_l, fin_v, fin_z, fin_a, fin_n, ee_b_0, ee_fld0, ee_fld1, ee_fld2, ee_fld3, bi_0, bi_1, bi_2, bi_3, bi_4, bi_5, bi_6, bi_7, bi_8, bi_9, bi_10, bl_20, bl_21, bl_22, bl_23, bl_24, bl_25, bl_26, bl_48, bl_49, un_0, un_1, un_2, un_3, if_true, if_false, ite_true, ite_false, Bool.false_eq_true, Bool.not_eq_false, decide_not, Bool.not_not, reduceCtorEq, st_i, st_l, st_r, st_n, ee_noL, ee_noL.eq_1, List.length_cons, List.length_nil, Nat.reduceAdd, Nat.reduceLT, Nat.zero_add, and_true, true_and, and_self, fin_ite, pu_0, pu_1, pu_3, sto_0, el_0, Bool.not_eq_true, decide_eq_false_iff_not, Bool.decide_eq_true, Bool.decide_eq_false, decide_true, decide_false, Bool.not_true, Bool.not_false, Bool.and_self, Bool.and_true, Bool.and_false, Bool.true_and, Bool.false_and, Bool.or_true, Bool.or_false, Bool.true_or, Bool.false_or, if_true, if_false, Bool.false_eq_true, ix_1, ix_2, tc_1, tc_2, mz_0, mz_1, mz_a, rvs, j_s, j_a, wI_at, Nat.reduceEqDiff, zero_ne_one_n, one_ne_zero_n]
  · obtain ⟨Z', r, ⟨b, rfl⟩, hW, hK, hC, hM⟩ := s_lose (P := P) hd4 h3 f
    refine ⟨Z', b, hW, hK, fun w h1 => ?_, fun w hM1 => ?_⟩
    · obtain ⟨w', p1, p2, p3⟩ := hC w h1
      refine ⟨w', ?_, p2, p3⟩
      rw [rn_102 cz_0]
      cases b <;> simp +decide only [p1, memc, memn, bd_102, k_1, k_4294967295, k_9999, nz_1, nz_9999, v_bin, v_call, v_cmp, v_cons, v_get, v_int, v_loc, v_mat, v_nil, w_case, w_dflt, w_exp0, w_exp1, w_ret, w_seq, w_set, w_switch, List.getElem?_cons_zero, List.getElem?_cons_succ, List.set_cons_zero, List.set_cons_succ, ee_cmp0, ee_cmp1, ee_cmp2, ee_cmp3, ee_cmp4, ee_cmp5, ee_cmpL0, ee_cmpL1, ee_cmpL2, ee_cmpL3, ee_cmpL4, ee_cmpL5, ee_tru_eb, decide_eq_true_eq, ib_i, ie_b, ie_f, ie_t, ib_l, fin_i, fin_l, fin_v, fin_z, fin_a, fin_n, ee_b_0, ee_fld0, ee_fld1, ee_fld2, ee_fld3, bi_0, bi_1, bi_2, bi_3, bi_4, bi_5, bi_6, bi_7, bi_8, bi_9, bi_10, bl_20, bl_21, bl_22, bl_23, bl_24, bl_25, bl_26, bl_48, bl_49, un_0, un_1, un_2, un_3, if_true, if_false, ite_true, ite_false, Bool.false_eq_true, Bool.not_eq_false, decide_not, Bool.not_not, reduceCtorEq, st_i, st_l, st_r, st_n, ee_noL, ee_noL.eq_1, List.length_cons, List.length_nil, Nat.reduceAdd, Nat.reduceLT, Nat.zero_add, and_true, true_and, and_self, fin_ite, pu_0, pu_1, pu_3, sto_0, el_0, Bool.not_eq_true, decide_eq_false_iff_not, Bool.decide_eq_true, Bool.decide_eq_false, decide_true, decide_false, Bool.not_true, Bool.not_false, Bool.and_self, Bool.and_true, Bool.and_false, Bool.true_and, Bool.false_and, Bool.or_true, Bool.or_false, Bool.true_or, Bool.false_or, if_true, if_false, Bool.false_eq_true]
    · obtain ⟨w', p1, p2, p3⟩ := hM w hM1
      obtain ⟨c0, c1, -⟩ := hm w hM1
      have c1 := c1 (by omega)
      refine ⟨w', ?_, p2, p3⟩
      rw [rn_267 mz_0]
      cases b <;> simp +decide only [i0, i1, t0, t1, c0, c1, p1, memc, memn, mz_t, mz_ts, bd_267, k_1, k_2, nz_1, nz_2, v_bin, v_call, v_cons, v_get, v_idx, v_int, v_loc, v_mat, v_nil, v_z, w_case, w_dflt, w_ret, w_seq, w_set, w_switch, List.getElem?_cons_zero, List.getElem?_cons_succ, List.set_cons_zero, List.set_cons_succ, ee_cmp0, ee_cmp1, ee_cmp2, ee_cmp3, ee_cmp4, ee_cmp5, ee_cmpL0, ee_cmpL1, ee_cmpL2, ee_cmpL3, ee_cmpL4, ee_cmpL5, ee_tru_eb, decide_eq_true_eq, ib_i, ie_b, ie_f, ie_t, ib_l, fin_i, fin_l, fin_v, fin_z, fin_a, fin_n, ee_b_0, ee_fld0, ee_fld1, ee_fld2, ee_fld3, bi_0, bi_1, bi_2, bi_3, bi_4, bi_5, bi_6, bi_7, bi_8, bi_9, bi_10, bl_20, bl_21, bl_22, bl_23, bl_24, bl_25, bl_26, bl_48, bl_49, un_0, un_1, un_2, un_3, if_true, if_false, ite_true, ite_false, Bool.false_eq_true, Bool.not_eq_false, decide_not, Bool.not_not, reduceCtorEq, st_i, st_l, st_r, st_n, ee_noL, ee_noL.eq_1, List.length_cons, List.length_nil, Nat.reduceAdd, Nat.reduceLT, Nat.zero_add, and_true, true_and, and_self, fin_ite, pu_0, pu_1, pu_3, sto_0, el_0, Bool.not_eq_true, decide_eq_false_iff_not, Bool.decide_eq_true, Bool.decide_eq_false, decide_true, decide_false, Bool.not_true, Bool.not_false, Bool.and_self, Bool.and_true, Bool.and_false, Bool.true_and, Bool.false_and, Bool.or_true, Bool.or_false, Bool.true_or, Bool.false_or, if_true, if_false, Bool.false_eq_true, ix_1, ix_2, tc_1, tc_2, mz_0, mz_1, mz_a, rvs, j_s, j_a, wI_at, Nat.reduceEqDiff, zero_ne_one_n, one_ne_zero_n]
  · obtain ⟨Z', r, ⟨b, rfl⟩, hW, hK, hC, hM⟩ := s_seek (P := P) hd4 h3 f
    refine ⟨Z', b, hW, hK, fun w h1 => ?_, fun w hM1 => ?_⟩
    · obtain ⟨w', p1, p2, p3⟩ := hC w h1
      refine ⟨w', ?_, p2, p3⟩
      rw [rn_102 cz_0]
      cases b <;> simp +decide only [p1, memc, memn, bd_102, k_1, k_4294967295, k_9999, nz_1, nz_9999, v_bin, v_call, v_cmp, v_cons, v_get, v_int, v_loc, v_mat, v_nil, w_case, w_dflt, w_exp0, w_exp1, w_ret, w_seq, w_set, w_switch, List.getElem?_cons_zero, List.getElem?_cons_succ, List.set_cons_zero, List.set_cons_succ, ee_cmp0, ee_cmp1, ee_cmp2, ee_cmp3, ee_cmp4, ee_cmp5, ee_cmpL0, ee_cmpL1, ee_cmpL2, ee_cmpL3, ee_cmpL4, ee_cmpL5, ee_tru_eb, decide_eq_true_eq, ib_i, ie_b, ie_f, ie_t, ib_l, fin_i, fin_l, fin_v, fin_z, fin_a, fin_n, ee_b_0, ee_fld0, ee_fld1, ee_fld2, ee_fld3, bi_0, bi_1, bi_2, bi_3, bi_4, bi_5, bi_6, bi_7, bi_8, bi_9, bi_10, bl_20, bl_21, bl_22, bl_23, bl_24, bl_25, bl_26, bl_48, bl_49, un_0, un_1, un_2, un_3, if_true, if_false, ite_true, ite_false, Bool.false_eq_true, Bool.not_eq_false, decide_not, Bool.not_not, reduceCtorEq, st_i, st_l, st_r, st_n, ee_noL, ee_noL.eq_1, List.length_cons, List.length_nil, Nat.reduceAdd, Nat.reduceLT, Nat.zero_add, and_true, true_and, and_self, fin_ite, pu_0, pu_1, pu_3, sto_0, el_0, Bool.not_eq_true, decide_eq_false_iff_not, Bool.decide_eq_true, Bool.decide_eq_false, decide_true, decide_false, Bool.not_true, Bool.not_false, Bool.and_self, Bool.and_true, Bool.and_false, Bool.true_and, Bool.false_and, Bool.or_true, Bool.or_false, Bool.true_or, Bool.false_or, if_true, if_false, Bool.false_eq_true]
    · obtain ⟨w', p1, p2, p3⟩ := hM w hM1
      obtain ⟨c0, c1, -⟩ := hm w hM1
      have c1 := c1 (by omega)
      refine ⟨w', ?_, p2, p3⟩
      rw [rn_267 mz_0]
      cases b <;> simp +decide only [i0, i1, t0, t1, c0, c1, p1, memc, memn, mz_t, mz_ts, bd_267, k_1, k_2, nz_1, nz_2, v_bin, v_call, v_cons, v_get, v_idx, v_int, v_loc, v_mat, v_nil, v_z, w_case, w_dflt, w_ret, w_seq, w_set, w_switch, List.getElem?_cons_zero, List.getElem?_cons_succ, List.set_cons_zero, List.set_cons_succ, ee_cmp0, ee_cmp1, ee_cmp2, ee_cmp3, ee_cmp4, ee_cmp5, ee_cmpL0, ee_cmpL1, ee_cmpL2, ee_cmpL3, ee_cmpL4, ee_cmpL5, ee_tru_eb, decide_eq_true_eq, ib_i, ie_b, ie_f, ie_t, ib_l, fin_i, fin_l, fin_v, fin_z, fin_a, fin_n, ee_b_0, ee_fld0, ee_fld1, ee_fld2, ee_fld3, bi_0, bi_1, bi_2, bi_3, bi_4, bi_5, bi_6, bi_7, bi_8, bi_9, bi_10, bl_20, bl_21, bl_22, bl_23, bl_24, bl_25, bl_26, bl_48, bl_49, un_0, un_1, un_2, un_3, if_true, if_false, ite_true, ite_false, Bool.false_eq_true, Bool.not_eq_false, decide_not, Bool.not_not, reduceCtorEq, st_i, st_l, st_r, st_n, ee_noL, ee_noL.eq_1, List.length_cons, List.length_nil, Nat.reduceAdd, Nat.reduceLT, Nat.zero_add, and_true, true_and, and_self, fin_ite, pu_0, pu_1, pu_3, sto_0, el_0, Bool.not_eq_true, decide_eq_false_iff_not, Bool.decide_eq_true, Bool.decide_eq_false, decide_true, decide_false, Bool.not_true, Bool.not_false, Bool.and_self, Bool.and_true, Bool.and_false, Bool.true_and, Bool.false_and, Bool.or_true, Bool.or_false, Bool.true_or, Bool.false_or, if_true, if_false, Bool.false_eq_true, ix_1, ix_2, tc_1, tc_2, mz_0, mz_1, mz_a, rvs, j_s, j_a, wI_at, Nat.reduceEqDiff, zero_ne_one_n, one_ne_zero_n]
  · obtain ⟨Z', r, ⟨v, rfl, hv⟩, hW, hK, hC, hM⟩ := s_shake (P := P) hd4 h3 f
    by_cases v1 : v = -1
    · subst v1
      refine ⟨Z', false, hW, hK, fun w h1 => ?_, fun w hM1 => ?_⟩
      · obtain ⟨w', p1, p2, p3⟩ := hC w h1
        refine ⟨w', ?_, p2, p3⟩
        rw [rn_102 cz_0]
        simp +decide only [p1, memc, memn, bd_102, k_1, k_4294967295, k_9999, nz_1, nz_9999, v_bin, v_call, v_cmp, v_cons, v_get, v_int, v_loc, v_mat, v_nil, w_case, w_dflt, w_exp0, w_exp1, w_ret, w_seq, w_set, w_switch, List.getElem?_cons_zero, List.getElem?_cons_succ, List.set_cons_zero, List.set_cons_succ, ee_cmp0, ee_cmp1, ee_cmp2, ee_cmp3, ee_cmp4, ee_cmp5, ee_cmpL0, ee_cmpL1, ee_cmpL2, ee_cmpL3, ee_cmpL4, ee_cmpL5, ee_tru_eb, decide_eq_true_eq, ib_i, ie_b, ie_f, ie_t, ib_l, fin_i, fin_l, fin_v, fin_z, fin_a, fin_n, ee_b_0, ee_fld0, ee_fld1, ee_fld2, ee_fld3, bi_0, bi_1, bi_2, bi_3, bi_4, bi_5, bi_6, bi_7, bi_8, bi_9, bi_10, bl_20, bl_21, bl_22, bl_23, bl_24, bl_25, bl_26, bl_48, bl_49, un_0, un_1, un_2, un_3, if_true, if_false, ite_true, ite_false, Bool.false_eq_true, Bool.not_eq_false, decide_not, Bool.not_not, reduceCtorEq, st_i, st_l, st_r, st_n, ee_noL, ee_noL.eq_1, List.length_cons, List.length_nil, Nat.reduceAdd, Nat.reduceLT, Nat.zero_add, and_true, true_and, and_self, fin_ite, pu_0, pu_1, pu_3, sto_0, el_0, Bool.not_eq_true, decide_eq_false_iff_not, Bool.decide_eq_true, Bool.decide_eq_false, decide_true, decide_false, Bool.not_true, Bool.not_false, Bool.and_self, Bool.and_true, Bool.and_false, Bool.true_and, Bool.false_and, Bool.or_true, Bool.or_false, Bool.true_or, Bool.false_or, if_true, if_false, Bool.false_eq_true]
      · obtain ⟨w', p1, p2, p3⟩ := hM w hM1
        obtain ⟨c0, c1, -⟩ := hm w hM1
        have c1 := c1 (by omega)
        refine ⟨w', ?_, p2, p3⟩
        rw [rn_267 mz_0]
        simp +decide only [i0, i1, t0, t1, c0, c1, p1, memc, memn, mz_t, mz_ts, bd_267, k_1, k_2, nz_1, nz_2, v_bin, v_call, v_cons, v_get, v_idx, v_int, v_loc, v_mat, v_nil, v_z, w_case, w_dflt, w_ret, w_seq, w_set, w_switch, List.getElem?_cons_zero, List.getElem?_cons_succ, List.set_cons_zero, List.set_cons_succ, ee_cmp0, ee_cmp1, ee_cmp2, ee_cmp3, ee_cmp4, ee_cmp5, ee_cmpL0, ee_cmpL1, ee_cmpL2, ee_cmpL3, ee_cmpL4, ee_cmpL5, ee_tru_eb, decide_eq_true_eq, ib_i, ie_b, ie_f, ie_t, ib_l, fin_i, fin_l, fin_v, fin_z, fin_a, fin_n, ee_b_0, ee_fld0, ee_fld1, ee_fld2, ee_fld3, bi_0, bi_1, bi_2, bi_3, bi_4, bi_5, bi_6, bi_7, bi_8, bi_9, bi_10, bl_20, bl_21, bl_22, bl_23, bl_24, bl_25, bl_26, bl_48, bl_49, un_0, un_1, un_2, un_3, if_true, if_false, ite_true, ite_false, Bool.false_eq_true, Bool.not_eq_false, decide_not, Bool.not_not, reduceCtorEq, st_i, st_l, st_r, st_n, ee_noL, ee_noL.eq_1, List.length_cons, List.length_nil, Nat.reduceAdd, Nat.reduceLT, Nat.zero_add, and_true, true_and, and_self, fin_ite, pu_0, pu_1, pu_3, sto_0, el_0, Bool.not_eq_true, decide_eq_false_iff_not, Bool.decide_eq_true, Bool.decide_eq_false, decide_true, decide_false, Bool.not_true, Bool.not_false, Bool.and_self, Bool.and_true, Bool.and_false, Bool.true_and, Bool.false_and, Bool.or_true, Bool.or_false, Bool.true_or, Bool.false_or, if_true, if_false, Bool.false_eq_true, ix_1, ix_2, tc_1, tc_2, mz_0, mz_1, mz_a, rvs, j_s, j_a, wI_at, Nat.reduceEqDiff, zero_ne_one_n, one_ne_zero_n]
    · have v0 : (0 : Int32) ≤ v := by
        rw [i32_le, show (0 : Int32).toInt = 0 from rfl]
        rcases hv with hv | hv
        · exact absurd hv v1
        · exact hv
      refine ⟨Z', true, hW, hK, fun w h1 => ?_, fun w hM1 => ?_⟩
      · obtain ⟨w', p1, p2, p3⟩ := hC w h1
        refine ⟨w', ?_, p2, p3⟩
        rw [rn_102 cz_0]
        simp +decide only [p1, v1, memc, memn, bd_102, k_1, k_4294967295, k_9999, nz_1, nz_9999, v_bin, v_call, v_cmp, v_cons, v_get, v_int, v_loc, v_mat, v_nil, w_case, w_dflt, w_exp0, w_exp1, w_ret, w_seq, w_set, w_switch, List.getElem?_cons_zero, List.getElem?_cons_succ, List.set_cons_zero, List.set_cons_succ, ee_cmp0, ee_cmp1, ee_cmp2, ee_cmp3, ee_cmp4, ee_cmp5, ee_cmpL0, ee_cmpL1, ee_cmpL2, ee_cmpL3, ee_cmpL4, ee_cmpL5, ee_tru_eb, decide_eq_true_eq, ib_i, ie_b, ie_f, ie_t, ib_l, fin_i, fin_l, fin_v, fin_z, fin_a, fin_n, ee_b_0, ee_fld0, ee_fld1, ee_fld2, ee_fld3, bi_0, bi_1, bi_2, bi_3, bi_4, bi_5, bi_6, bi_7, bi_8, bi_9, bi_10, bl_20, bl_21, bl_22, bl_23, bl_24, bl_25, bl_26, bl_48, bl_49, un_0, un_1, un_2, un_3, if_true, if_false, ite_true, ite_false, Bool.false_eq_true, Bool.not_eq_false, decide_not, Bool.not_not, reduceCtorEq, st_i, st_l, st_r, st_n, ee_noL, ee_noL.eq_1, List.length_cons, List.length_nil, Nat.reduceAdd, Nat.reduceLT, Nat.zero_add, and_true, true_and, and_self, fin_ite, pu_0, pu_1, pu_3, sto_0, el_0, Bool.not_eq_true, decide_eq_false_iff_not, Bool.decide_eq_true, Bool.decide_eq_false, decide_true, decide_false, Bool.not_true, Bool.not_false, Bool.and_self, Bool.and_true, Bool.and_false, Bool.true_and, Bool.false_and, Bool.or_true, Bool.or_false, Bool.true_or, Bool.false_or, if_true, if_false, Bool.false_eq_true]
      · obtain ⟨w', p1, p2, p3⟩ := hM w hM1
        obtain ⟨c0, c1, -⟩ := hm w hM1
        have c1 := c1 (by omega)
        refine ⟨w', ?_, p2, p3⟩
        rw [rn_267 mz_0]
        simp +decide only [i0, i1, t0, t1, c0, c1, p1, v0, memc, memn, mz_t, mz_ts, bd_267, k_1, k_2, nz_1, nz_2, v_bin, v_call, v_cons, v_get, v_idx, v_int, v_loc, v_mat, v_nil, v_z, w_case, w_dflt, w_ret, w_seq, w_set, w_switch, List.getElem?_cons_zero, List.getElem?_cons_succ, List.set_cons_zero, List.set_cons_succ, ee_cmp0, ee_cmp1, ee_cmp2, ee_cmp3, ee_cmp4, ee_cmp5, ee_cmpL0, ee_cmpL1, ee_cmpL2, ee_cmpL3, ee_cmpL4, ee_cmpL5, ee_tru_eb, decide_eq_true_eq, ib_i, ie_b, ie_f, ie_t, ib_l, fin_i, fin_l, fin_v, fin_z, fin_a, fin_n, ee_b_0, ee_fld0, ee_fld1, ee_fld2, ee_fld3, bi_0, bi_1, bi_2, bi_3, bi_4, bi_5, bi_6, bi_7, bi_8, bi_9, bi_10, bl_20, bl_21, bl_22, bl_23, bl_24, bl_25, bl_26, bl_48, bl_49, un_0, un_1, un_2, un_3, if_true, if_false, ite_true, ite_false, Bool.false_eq_true, Bool.not_eq_false, decide_not, Bool.not_not, reduceCtorEq, st_i, st_l, st_r, st_n, ee_noL, ee_noL.eq_1, List.length_cons, List.length_nil, Nat.reduceAdd, Nat.reduceLT, Nat.zero_add, and_true, true_and, and_self, fin_ite, pu_0, pu_1, pu_3, sto_0, el_0, Bool.not_eq_true, decide_eq_false_iff_not, Bool.decide_eq_true, Bool.decide_eq_false, decide_true, decide_false, Bool.not_true, Bool.not_false, Bool.and_self, Bool.and_true, Bool.and_false, Bool.true_and, Bool.false_and, Bool.or_true, Bool.or_false, Bool.true_or, Bool.false_or, if_true, if_false, Bool.false_eq_true, ix_1, ix_2, tc_1, tc_2, mz_0, mz_1, mz_a, rvs, j_s, j_a, wI_at, Nat.reduceEqDiff, zero_ne_one_n, one_ne_zero_n]
  · obtain ⟨Z', r, ⟨v, rfl, hv⟩, hW, hK, hC, hM⟩ := s_write (P := P) hd4 h3
    by_cases v1 : v = -1
    · subst v1
      refine ⟨Z', false, hW, hK, fun w h1 => ?_, fun w hM1 => ?_⟩
      · obtain ⟨w', p1, p2, p3⟩ := hC w h1
        refine ⟨w', ?_, p2, p3⟩
        rw [rn_102 cz_0]
        simp +decide only [p1, memc, memn, bd_102, k_1, k_4294967295, k_9999, nz_1, nz_9999, v_bin, v_call, v_cmp, v_cons, v_get, v_int, v_loc, v_mat, v_nil, w_case, w_dflt, w_exp0, w_exp1, w_ret, w_seq, w_set, w_switch, List.getElem?_cons_zero, List.getElem?_cons_succ, List.set_cons_zero, List.set_cons_succ, ee_cmp0, ee_cmp1, ee_cmp2, ee_cmp3, ee_cmp4, ee_cmp5, ee_cmpL0, ee_cmpL1, ee_cmpL2, ee_cmpL3, ee_cmpL4, ee_cmpL5, ee_tru_eb, decide_eq_true_eq, ib_i, ie_b, ie_f, ie_t, ib_l, fin_i, fin_l, fin_v, fin_z, fin_a, fin_n, ee_b_0, ee_fld0, ee_fld1, ee_fld2, ee_fld3, bi_0, bi_1, bi_2, bi_3, bi_4, bi_5, bi_6, bi_7, bi_8, bi_9, bi_10, bl_20, bl_21, bl_22, bl_23, bl_24, bl_25, bl_26, bl_48, bl_49, un_0, un_1, un_2, un_3, if_true, if_false, ite_true, ite_false, Bool.false_eq_true, Bool.not_eq_false, decide_not, Bool.not_not, reduceCtorEq, st_i, st_l, st_r, st_n, ee_noL, ee_noL.eq_1, List.length_cons, List.length_nil, Nat.reduceAdd, Nat.reduceLT, Nat.zero_add, and_true, true_and, and_self, fin_ite, pu_0, pu_1, pu_3, sto_0, el_0, Bool.not_eq_true, decide_eq_false_iff_not, Bool.decide_eq_true, Bool.decide_eq_false, decide_true, decide_false, Bool.not_true, Bool.not_false, Bool.and_self, Bool.and_true, Bool.and_false, Bool.true_and, Bool.false_and, Bool.or_true, Bool.or_false, Bool.true_or, Bool.false_or, if_true, if_false, Bool.false_eq_true]
      · obtain ⟨w', p1, p2, p3⟩ := hM w hM1
        obtain ⟨c0, -, -⟩ := hm w hM1
        refine ⟨w', ?_, p2, p3⟩
        rw [rn_267 mz_0]
        simp +decide only [i0, i1, t0, t1, c0, p1, memc, memn, mz_t, mz_ts, bd_267, k_1, k_2, nz_1, nz_2, v_bin, v_call, v_cons, v_get, v_idx, v_int, v_loc, v_mat, v_nil, v_z, w_case, w_dflt, w_ret, w_seq, w_set, w_switch, List.getElem?_cons_zero, List.getElem?_cons_succ, List.set_cons_zero, List.set_cons_succ, ee_cmp0, ee_cmp1, ee_cmp2, ee_cmp3, ee_cmp4, ee_cmp5, ee_cmpL0, ee_cmpL1, ee_cmpL2, ee_cmpL3, ee_cmpL4, ee_cmpL5, ee_tru_eb, decide_eq_true_eq, ib_i, ie_b, ie_f, ie_t, ib_l, fin_i, fin_l, fin_v, fin_z, fin_a, fin_n, ee_b_0, ee_fld0, ee_fld1, ee_fld2, ee_fld3, bi_0, bi_1, bi_2, bi_3, bi_4, bi_5, bi_6, bi_7, bi_8, bi_9, bi_10, bl_20, bl_21, bl_22, bl_23, bl_24, bl_25, bl_26, bl_48, bl_49, un_0, un_1, un_2, un_3, if_true, if_false, ite_true, ite_false, Bool.false_eq_true, Bool.not_eq_false, decide_not, Bool.not_not, reduceCtorEq, st_i, st_l, st_r, st_n, ee_noL, ee_noL.eq_1, List.length_cons, List.length_nil, Nat.reduceAdd, Nat.reduceLT, Nat.zero_add, and_true, true_and, and_self, fin_ite, pu_0, pu_1, pu_3, sto_0, el_0, Bool.not_eq_true, decide_eq_false_iff_not, Bool.decide_eq_true, Bool.decide_eq_false, decide_true, decide_false, Bool.not_true, Bool.not_false, Bool.and_self, Bool.and_true, Bool.and_false, Bool.true_and, Bool.false_and, Bool.or_true, Bool.or_false, Bool.true_or, Bool.false_or, if_true, if_false, Bool.false_eq_true, ix_1, ix_2, tc_1, tc_2, mz_0, mz_1, mz_a, rvs, j_s, j_a, wI_at, Nat.reduceEqDiff, zero_ne_one_n, one_ne_zero_n]
    · have v0 : (0 : Int32) ≤ v := by
        rw [i32_le, show (0 : Int32).toInt = 0 from rfl]
        rcases hv with hv | hv
        · exact absurd hv v1
        · exact hv
      refine ⟨Z', true, hW, hK, fun w h1 => ?_, fun w hM1 => ?_⟩
      · obtain ⟨w', p1, p2, p3⟩ := hC w h1
        refine ⟨w', ?_, p2, p3⟩
        rw [rn_102 cz_0]
        simp +decide only [p1, v1, memc, memn, bd_102, k_1, k_4294967295, k_9999, nz_1, nz_9999, v_bin, v_call, v_cmp, v_cons, v_get, v_int, v_loc, v_mat, v_nil, w_case, w_dflt, w_exp0, w_exp1, w_ret, w_seq, w_set, w_switch, List.getElem?_cons_zero, List.getElem?_cons_succ, List.set_cons_zero, List.set_cons_succ, ee_cmp0, ee_cmp1, ee_cmp2, ee_cmp3, ee_cmp4, ee_cmp5, ee_cmpL0, ee_cmpL1, ee_cmpL2, ee_cmpL3, ee_cmpL4, ee_cmpL5, ee_tru_eb, decide_eq_true_eq, ib_i, ie_b, ie_f, ie_t, ib_l, fin_i, fin_l, fin_v, fin_z, fin_a, fin_n, ee_b_0, ee_fld0, ee_fld1, ee_fld2, ee_fld3, bi_0, bi_1, bi_2, bi_3, bi_4, bi_5, bi_6, bi_7, bi_8, bi_9, bi_10, bl_20, bl_21, bl_22, bl_23, bl_24, bl_25, bl_26, bl_48, bl_49, un_0, un_1, un_2, un_3, if_true, if_false, ite_true, ite_false, Bool.false_eq_true, Bool.not_eq_false, decide_not, Bool.not_not, reduceCtorEq, st_i, st_l, st_r, st_n, ee_noL, ee_noL.eq_1, List.length_cons, List.length_nil, Nat.reduceAdd, Nat.reduceLT, Nat.zero_add, and_true, true_and, and_self, fin_ite, pu_0, pu_1, pu_3, sto_0, el_0, Bool.not_eq_true, decide_eq_false_iff_not, Bool.decide_eq_true, Bool.decide_eq_false, decide_true, decide_false, Bool.not_true, Bool.not_false, Bool.and_self, Bool.and_true, Bool.and_false, Bool.true_and, Bool.false_and, Bool.or_true, Bool.or_false, Bool.true_or, Bool.false_or, if_true, if_false, Bool.false_eq_true]
      · obtain ⟨w', p1, p2, p3⟩ := hM w hM1
        obtain ⟨c0, -, -⟩ := hm w hM1
        refine ⟨w', ?_, p2, p3⟩
        rw [rn_267 mz_0]
        simp +decide only [i0, i1, t0, t1, c0, p1, v0, memc, memn, mz_t, mz_ts, bd_267, k_1, k_2, nz_1, nz_2, v_bin, v_call, v_cons, v_get, v_idx, v_int, v_loc, v_mat, v_nil, v_z, w_case, w_dflt, w_ret, w_seq, w_set, w_switch, List.getElem?_cons_zero, List.getElem?_cons_succ, List.set_cons_zero, List.set_cons_succ, ee_cmp0, ee_cmp1, ee_cmp2, ee_cmp3, ee_cmp4, ee_cmp5, ee_cmpL0, ee_cmpL1, ee_cmpL2, ee_cmpL3, ee_cmpL4, ee_cmpL5, ee_tru_eb, decide_eq_true_eq, ib_i, ie_b, ie_f, ie_t, ib_l, fin_i, fin_l, fin_v, fin_z, fin_a, fin_n, ee_b_0, ee_fld0, ee_fld1, ee_fld2, ee_fld3, bi_0, bi_1, bi_2, bi_3, bi_4, bi_5, bi_6, bi_7, bi_8, bi_9, bi_10, bl_20, bl_21, bl_22, bl_23, bl_24, bl_25, bl_26, bl_48, bl_49, un_0, un_1, un_2, un_3, if_true, if_false, ite_true, ite_false, Bool.false_eq_true, Bool.not_eq_false, decide_not, Bool.not_not, reduceCtorEq, st_i, st_l, st_r, st_n, ee_noL, ee_noL.eq_1, List.length_cons, List.length_nil, Nat.reduceAdd, Nat.reduceLT, Nat.zero_add, and_true, true_and, and_self, fin_ite, pu_0, pu_1, pu_3, sto_0, el_0, Bool.not_eq_true, decide_eq_false_iff_not, Bool.decide_eq_true, Bool.decide_eq_false, decide_true, decide_false, Bool.not_true, Bool.not_false, Bool.and_self, Bool.and_true, Bool.and_false, Bool.true_and, Bool.false_and, Bool.or_true, Bool.or_false, Bool.true_or, Bool.false_or, if_true, if_false, Bool.false_eq_true, ix_1, ix_2, tc_1, tc_2, mz_0, mz_1, mz_a, rvs, j_s, j_a, wI_at, Nat.reduceEqDiff, zero_ne_one_n, one_ne_zero_n]
  · obtain ⟨Z', b, hW, hK, hC, hM⟩ := s_pass (P := P) hd11 h3 f
    refine ⟨Z', b, hW, hK, fun w h1 => ?_, fun w hM1 => ?_⟩
    · obtain ⟨w', can, p0, p1, p2, p3, p4⟩ := hC w h1
      refine ⟨w', ?_, p3, p4⟩
      rw [rn_102 cz_0]
      cases b
      · have p1 := of_decide_eq_false p1
        simp +decide only [r_min hd1, p0, p1, p2, memc, memn, cz_0, cz_r0, al_1.1, al_1.2.1, hd2_ok.1, rvs, bd_102, k_1, k_4294967295, k_9999, nz_1, nz_9999, v_bin, v_call, v_cmp, v_cons, v_get, v_int, v_loc, v_mat, v_nil, w_case, w_dflt, w_exp0, w_exp1, w_ret, w_seq, w_set, w_switch, List.getElem?_cons_zero, List.getElem?_cons_succ, List.set_cons_zero, List.set_cons_succ, ee_cmp0, ee_cmp1, ee_cmp2, ee_cmp3, ee_cmp4, ee_cmp5, ee_cmpL0, ee_cmpL1, ee_cmpL2, ee_cmpL3, ee_cmpL4, ee_cmpL5, ee_tru_eb, decide_eq_true_eq, ib_i, ie_b, ie_f, ie_t, ib_l, fin_i, fin_l, fin_v, fin_z, fin_a, fin_n, ee_b_0, ee_fld0, ee_fld1, ee_fld2, ee_fld3, bi_0, bi_1, bi_2, bi_3, bi_4, bi_5, bi_6, bi_7, bi_8, bi_9, bi_10, bl_20, bl_21, bl_22, bl_23, bl_24, bl_25, bl_26, bl_48, bl_49, un_0, un_1, un_2, un_3, if_true, if_false, ite_true, ite_false, Bool.false_eq_true, Bool.not_eq_false, decide_not, Bool.not_not, reduceCtorEq, st_i, st_l, st_r, st_n, ee_noL, ee_noL.eq_1, List.length_cons, List.length_nil, Nat.reduceAdd, Nat.reduceLT, Nat.zero_add, and_true, true_and, and_self, fin_ite, pu_0, pu_1, pu_3, sto_0, el_0, Bool.not_eq_true, decide_eq_false_iff_not, Bool.decide_eq_true, Bool.decide_eq_false, decide_true, decide_false, Bool.not_true, Bool.not_false, Bool.and_self, Bool.and_true, Bool.and_false, Bool.true_and, Bool.false_and, Bool.or_true, Bool.or_false, Bool.true_or, Bool.false_or, if_true, if_false, Bool.false_eq_true]
      · have p1 := of_decide_eq_true p1
        subst p1
        simp +decide only [r_min hd1, p0, p2, memc, memn, cz_0, cz_r0, al_1.1, al_1.2.1, hd2_ok.1, rvs, bd_102, k_1, k_4294967295, k_9999, nz_1, nz_9999, v_bin, v_call, v_cmp, v_cons, v_get, v_int, v_loc, v_mat, v_nil, w_case, w_dflt, w_exp0, w_exp1, w_ret, w_seq, w_set, w_switch, List.getElem?_cons_zero, List.getElem?_cons_succ, List.set_cons_zero, List.set_cons_succ, ee_cmp0, ee_cmp1, ee_cmp2, ee_cmp3, ee_cmp4, ee_cmp5, ee_cmpL0, ee_cmpL1, ee_cmpL2, ee_cmpL3, ee_cmpL4, ee_cmpL5, ee_tru_eb, decide_eq_true_eq, ib_i, ie_b, ie_f, ie_t, ib_l, fin_i, fin_l, fin_v, fin_z, fin_a, fin_n, ee_b_0, ee_fld0, ee_fld1, ee_fld2, ee_fld3, bi_0, bi_1, bi_2, bi_3, bi_4, bi_5, bi_6, bi_7, bi_8, bi_9, bi_10, bl_20, bl_21, bl_22, bl_23, bl_24, bl_25, bl_26, bl_48, bl_49, un_0, un_1, un_2, un_3, if_true, if_false, ite_true, ite_false, Bool.false_eq_true, Bool.not_eq_false, decide_not, Bool.not_not, reduceCtorEq, st_i, st_l, st_r, st_n, ee_noL, ee_noL.eq_1, List.length_cons, List.length_nil, Nat.reduceAdd, Nat.reduceLT, Nat.zero_add, and_true, true_and, and_self, fin_ite, pu_0, pu_1, pu_3, sto_0, el_0, Bool.not_eq_true, decide_eq_false_iff_not, Bool.decide_eq_true, Bool.decide_eq_false, decide_true, decide_false, Bool.not_true, Bool.not_false, Bool.and_self, Bool.and_true, Bool.and_false, Bool.true_and, Bool.false_and, Bool.or_true, Bool.or_false, Bool.true_or, Bool.false_or, if_true, if_false, Bool.false_eq_true]
    · obtain ⟨w', p1, p2, p3⟩ := hM w hM1
      obtain ⟨c0, c1, -⟩ := hm w hM1
      have c1 := c1 (by omega)
      refine ⟨w', ?_, p2, p3⟩
      rw [rn_267 mz_0]
      cases b <;> simp +decide only [i0, i1, t0, t1, c0, c1, p1, memc, memn, mz_t, mz_ts, bd_267, k_1, k_2, nz_1, nz_2, v_bin, v_call, v_cons, v_get, v_idx, v_int, v_loc, v_mat, v_nil, v_z, w_case, w_dflt, w_ret, w_seq, w_set, w_switch, List.getElem?_cons_zero, List.getElem?_cons_succ, List.set_cons_zero, List.set_cons_succ, ee_cmp0, ee_cmp1, ee_cmp2, ee_cmp3, ee_cmp4, ee_cmp5, ee_cmpL0, ee_cmpL1, ee_cmpL2, ee_cmpL3, ee_cmpL4, ee_cmpL5, ee_tru_eb, decide_eq_true_eq, ib_i, ie_b, ie_f, ie_t, ib_l, fin_i, fin_l, fin_v, fin_z, fin_a, fin_n, ee_b_0, ee_fld0, ee_fld1, ee_fld2, ee_fld3, bi_0, bi_1, bi_2, bi_3, bi_4, bi_5, bi_6, bi_7, bi_8, bi_9, bi_10, bl_20, bl_21, bl_22, bl_23, bl_24, bl_25, bl_26, bl_48, bl_49, un_0, un_1, un_2, un_3, if_true, if_false, ite_true, ite_false, Bool.false_eq_true, Bool.not_eq_false, decide_not, Bool.not_not, reduceCtorEq, st_i, st_l, st_r, st_n, ee_noL, ee_noL.eq_1, List.length_cons, List.length_nil, Nat.reduceAdd, Nat.reduceLT, Nat.zero_add, and_true, true_and, and_self, fin_ite, pu_0, pu_1, pu_3, sto_0, el_0, Bool.not_eq_true, decide_eq_false_iff_not, Bool.decide_eq_true, Bool.decide_eq_false, decide_true, decide_false, Bool.not_true, Bool.not_false, Bool.and_self, Bool.and_true, Bool.and_false, Bool.true_and, Bool.false_and, Bool.or_true, Bool.or_false, Bool.true_or, Bool.false_or, if_true, if_false, Bool.false_eq_true, ix_1, ix_2, tc_1, tc_2, mz_0, mz_1, mz_a, rvs, j_s, j_a, wI_at, Nat.reduceEqDiff, zero_ne_one_n, one_ne_zero_n]
def lo (o : Option Nat) (env : ee_E) (w : ee_W) : ee_O := match o with
  | none => .inl (env, w)
  | some j => .inr ([.int (Int32.ofNat j)], w)
theorem s_loop (hd : 12 ≤ d) {t : Nat} (ht4 : t < 4) {T : TX} (h24 : T.1.1 ≤ 24) (KI : ∀ i, i < T.1.1 → ∃ q, q ≤ 7 ∧ (T.1.2 i).1 = Int32.ofNat q) : ∀ m k Z, k + m = T.1.1 → WZ Z → t < nT Z.1 → Z.2.2.1 t = T →
    ∃ Z' o, WZ Z' ∧
    (∀ w, CZ w Z → ∃ w', ee_wh (ee_turn (ee_ev es_sh es_rf (ee_run ee_B P d) lx_101_1) (ee_evS es_sh es_rf (ee_run ee_B P d) lb_101_1)) ([some (.ref 0), some (.int (Int32.ofNat t)), some (.ref (202 + 5 * t)), some (.int (Int32.ofNat k))], w) = some (lo o [some (.ref 0), some (.int (Int32.ofNat t)), some (.ref (202 + 5 * t)), some (.int (Int32.ofNat T.1.1))] w') ∧ CZ w' Z' ∧ chg plo w w') ∧
    (∀ w, MZ w Z → ∃ w', ee_wh (ee_turn (ee_ev es_sh es_rf (ee_run ee_B P d) lx_266_1) (ee_evS es_sh es_rf (ee_run ee_B P d) lb_266_1)) ([some (.ref 236), some (.int (Int32.ofNat t)), some (.int (Int32.ofNat k))], w) = some (lo o [some (.ref 236), some (.int (Int32.ofNat t)), some (.int (Int32.ofNat T.1.1))] w') ∧ MZ w' Z' ∧ chk phi w w') := by
  have tx := tx_of t ht4
  obtain ⟨x0, x1, x2, x3, x4, x5, x6, x7, x8⟩ := tx
  have e681 : (681 : Int32) * Int32.ofNat t = Int32.ofNat (681 * t) := j_m 681 t
  have j0 : ee_ix (Int32.ofNat (681 * t)) 2724 = true := by rw [ixn (by omega)]; exact decide_eq_true (by omega)
  have s0 := tnc (n := 681 * t) (by omega)
  intro m
  induction m with
  | zero =>
    intro k Z hk h3 ht hT
    have nn : ¬ Int32.ofNat k < Int32.ofNat T.1.1 := fun y => by have := (j_lt (by omega) (by omega)).1 y; omega
    refine ⟨Z, none, h3, fun w h1 => ⟨w, ?_, h1, chg_refl _ _⟩, fun w hM => ⟨w, ?_, hM, chk_refl _ _⟩⟩
    · have a := h1.2.2.1 t ht ht4
      rw [hT] at a
      have c3 := a.1.2.1
      have e : ee_turn (ee_ev es_sh es_rf (ee_run ee_B P d) lx_101_1) (ee_evS es_sh es_rf (ee_run ee_B P d) lb_101_1) ([some (.ref 0), some (.int (Int32.ofNat t)), some (.ref (202 + 5 * t)), some (.int (Int32.ofNat k))], w) = some (.inr (.inl ([some (.ref 0), some (.int (Int32.ofNat t)), some (.ref (202 + 5 * t)), some (.int (Int32.ofNat k))], w))) := by
        simp only [c3, nn, x0, lx_101_1, lb_101_1, ee_turn, k_0, k_24, k_4294967294, k_4294967295, nz_24, v_and, v_call, v_cmp, v_cons, v_get, v_idx, v_int, v_isnull, v_loc, v_nil, v_not, v_z, w_if, w_inc, w_ret, w_seq, w_set, w_skip, List.getElem?_cons_zero, List.getElem?_cons_succ, List.set_cons_zero, List.set_cons_succ, ee_cmp0, ee_cmp1, ee_cmp2, ee_cmp3, ee_cmp4, ee_cmp5, ee_cmpL0, ee_cmpL1, ee_cmpL2, ee_cmpL3, ee_cmpL4, ee_cmpL5, ee_tru_eb, decide_eq_true_eq, ib_i, ie_b, ie_f, ie_t, ib_l, fin_i, fin_l, fin_v, fin_z, fin_a, fin_n, ee_b_0, ee_fld0, ee_fld1, ee_fld2, ee_fld3, bi_0, bi_1, bi_2, bi_3, bi_4, bi_5, bi_6, bi_7, bi_8, bi_9, bi_10, bl_20, bl_21, bl_22, bl_23, bl_24, bl_25, bl_26, bl_48, bl_49, un_0, un_1, un_2, un_3, if_true, if_false, ite_true, ite_false, Bool.false_eq_true, Bool.not_eq_false, decide_not, Bool.not_not, reduceCtorEq, st_i, st_l, st_r, st_n, ee_noL, ee_noL.eq_1, List.length_cons, List.length_nil, Nat.reduceAdd, Nat.reduceLT, Nat.zero_add, and_true, true_and, and_self, fin_ite, pu_0, pu_1, pu_3, sto_0, el_0, Bool.not_eq_true, decide_eq_false_iff_not, Bool.decide_eq_true, Bool.decide_eq_false, decide_true, decide_false, Bool.not_true, Bool.not_false, Bool.and_self, Bool.and_true, Bool.and_false, Bool.true_and, Bool.false_and, Bool.or_true, Bool.or_false, Bool.true_or, Bool.false_or, if_true, if_false, Bool.false_eq_true]
      rw [ee_wh_eq, e, show k = T.1.1 by omega]
      rfl
    · have a := hM.2.2.1 t ht ht4
      rw [hT] at a
      have c3 := a.2.1
      have e : ee_turn (ee_ev es_sh es_rf (ee_run ee_B P d) lx_266_1) (ee_evS es_sh es_rf (ee_run ee_B P d) lb_266_1) ([some (.ref 236), some (.int (Int32.ofNat t)), some (.int (Int32.ofNat k))], w) = some (.inr (.inl ([some (.ref 236), some (.int (Int32.ofNat t)), some (.int (Int32.ofNat k))], w))) := by
        simp only [c3, nn, e681, j0, s0, mz_t, mz_ts, lx_266_1, lb_266_1, ee_turn, k_0, k_1, k_3, k_4294967294, k_4294967295, k_681, nz_1, nz_3, nz_681, v_bin, v_call, v_cmp, v_cons, v_get, v_idx, v_int, v_loc, v_nil, v_not, v_z, w_if, w_inc, w_ret, w_seq, w_set, w_skip, List.getElem?_cons_zero, List.getElem?_cons_succ, List.set_cons_zero, List.set_cons_succ, ee_cmp0, ee_cmp1, ee_cmp2, ee_cmp3, ee_cmp4, ee_cmp5, ee_cmpL0, ee_cmpL1, ee_cmpL2, ee_cmpL3, ee_cmpL4, ee_cmpL5, ee_tru_eb, decide_eq_true_eq, ib_i, ie_b, ie_f, ie_t, ib_l, fin_i, fin_l, fin_v, fin_z, fin_a, fin_n, ee_b_0, ee_fld0, ee_fld1, ee_fld2, ee_fld3, bi_0, bi_1, bi_2, bi_3, bi_4, bi_5, bi_6, bi_7, bi_8, bi_9, bi_10, bl_20, bl_21, bl_22, bl_23, bl_24, bl_25, bl_26, bl_48, bl_49, un_0, un_1, un_2, un_3, if_true, if_false, ite_true, ite_false, Bool.false_eq_true, Bool.not_eq_false, decide_not, Bool.not_not, reduceCtorEq, st_i, st_l, st_r, st_n, ee_noL, ee_noL.eq_1, List.length_cons, List.length_nil, Nat.reduceAdd, Nat.reduceLT, Nat.zero_add, and_true, true_and, and_self, fin_ite, pu_0, pu_1, pu_3, sto_0, el_0, Bool.not_eq_true, decide_eq_false_iff_not, Bool.decide_eq_true, Bool.decide_eq_false, decide_true, decide_false, Bool.not_true, Bool.not_false, Bool.and_self, Bool.and_true, Bool.and_false, Bool.true_and, Bool.false_and, Bool.or_true, Bool.or_false, Bool.true_or, Bool.false_or, if_true, if_false, Bool.false_eq_true, tc_0, ix_0, tc_1, ix_1, tc_3, ix_3, tc_681, ix_681, mz_0, mz_1, mz_a, rvs, j_s, j_a, wI_at, Nat.reduceEqDiff, zero_ne_one_n, one_ne_zero_n]
      rw [ee_wh_eq, e, show k = T.1.1 by omega]
      rfl
  | succ m ih =>
    intro k Z hk h3 ht hT
    have h9 : Int32.ofNat k < Int32.ofNat T.1.1 := (j_lt (by omega) (by omega)).2 (by omega)
    have h8 : Int32.ofNat k < 24 := (j_lt (b := 24) (by omega) (by omega)).2 (by omega)
    have y1 : ee_ix (Int32.ofNat k) 24 = true := by rw [ixn (by omega)]; exact decide_eq_true (by omega)
    have y2 := tnc (n := k) (by omega)
    have e3 : (3 : Int32) * Int32.ofNat k = Int32.ofNat (3 * k) := j_m 3 k
    have e1 : Int32.ofNat (681 * t) + 1 = Int32.ofNat (681 * t + 1) := j_s _
    have ec : Int32.ofNat (681 * t + 1) + Int32.ofNat (3 * k) = Int32.ofNat (clz t k) := j_a _ _
    obtain ⟨q, q7, eq⟩ := KI k (by omega)
    obtain ⟨Z1, b, hW1, ⟨hK1, hK2⟩, hC1, hM1⟩ := s_clause (P := P) hd h3 ht ht4 hT (show k < T.1.1 by omega) h24 q7 eq
    have tC : ∀ w, CZ w Z → ∃ w', ee_turn (ee_ev es_sh es_rf (ee_run ee_B P d) lx_101_1) (ee_evS es_sh es_rf (ee_run ee_B P d) lb_101_1) ([some (.ref 0), some (.int (Int32.ofNat t)), some (.ref (202 + 5 * t)), some (.int (Int32.ofNat k))], w) = (if b = true then some (.inl ([some (.ref 0), some (.int (Int32.ofNat t)), some (.ref (202 + 5 * t)), some (.int (Int32.ofNat (k + 1)))], w')) else some (.inr (.inr ([.int (Int32.ofNat k)], w')))) ∧ CZ w' Z1 ∧ chg plo w w' := by
      intro w h1
      obtain ⟨w', p1, p2, p3⟩ := hC1 w h1
      have a := h1.2.2.1 t ht ht4
      rw [hT] at a
      obtain ⟨-, c3, c4⟩ := a.1
      obtain ⟨d1, d2, d3⟩ := c4 k (by omega)
      rw [eq] at d1
      refine ⟨w', ?_, p2, p3⟩
      cases b <;> simp only [h9, h8, y1, y2, c3, d1, d2, d3, p1, x0, x1, x2, x3, x5, x6, x7, rvs, j_s, j_a, lx_101_1, lb_101_1, ee_turn, k_0, k_24, k_4294967294, k_4294967295, nz_24, v_and, v_call, v_cmp, v_cons, v_get, v_idx, v_int, v_isnull, v_loc, v_nil, v_not, v_z, w_if, w_inc, w_ret, w_seq, w_set, w_skip, List.getElem?_cons_zero, List.getElem?_cons_succ, List.set_cons_zero, List.set_cons_succ, ee_cmp0, ee_cmp1, ee_cmp2, ee_cmp3, ee_cmp4, ee_cmp5, ee_cmpL0, ee_cmpL1, ee_cmpL2, ee_cmpL3, ee_cmpL4, ee_cmpL5, ee_tru_eb, decide_eq_true_eq, ib_i, ie_b, ie_f, ie_t, ib_l, fin_i, fin_l, fin_v, fin_z, fin_a, fin_n, ee_b_0, ee_fld0, ee_fld1, ee_fld2, ee_fld3, bi_0, bi_1, bi_2, bi_3, bi_4, bi_5, bi_6, bi_7, bi_8, bi_9, bi_10, bl_20, bl_21, bl_22, bl_23, bl_24, bl_25, bl_26, bl_48, bl_49, un_0, un_1, un_2, un_3, if_true, if_false, ite_true, ite_false, Bool.false_eq_true, Bool.not_eq_false, decide_not, Bool.not_not, reduceCtorEq, st_i, st_l, st_r, st_n, ee_noL, ee_noL.eq_1, List.length_cons, List.length_nil, Nat.reduceAdd, Nat.reduceLT, Nat.zero_add, and_true, true_and, and_self, fin_ite, pu_0, pu_1, pu_3, sto_0, el_0, Bool.not_eq_true, decide_eq_false_iff_not, Bool.decide_eq_true, Bool.decide_eq_false, decide_true, decide_false, Bool.not_true, Bool.not_false, Bool.and_self, Bool.and_true, Bool.and_false, Bool.true_and, Bool.false_and, Bool.or_true, Bool.or_false, Bool.true_or, Bool.false_or, if_true, if_false, Bool.false_eq_true]
    have tM : ∀ w, MZ w Z → ∃ w', ee_turn (ee_ev es_sh es_rf (ee_run ee_B P d) lx_266_1) (ee_evS es_sh es_rf (ee_run ee_B P d) lb_266_1) ([some (.ref 236), some (.int (Int32.ofNat t)), some (.int (Int32.ofNat k))], w) = (if b = true then some (.inl ([some (.ref 236), some (.int (Int32.ofNat t)), some (.int (Int32.ofNat (k + 1)))], w')) else some (.inr (.inr ([.int (Int32.ofNat k)], w')))) ∧ MZ w' Z1 ∧ chk phi w w' := by
      intro w hM
      obtain ⟨w', p1, p2, p3⟩ := hM1 w hM
      have a := hM.2.2.1 t ht ht4
      rw [hT] at a
      have c3 := a.2.1
      refine ⟨w', ?_, p2, p3⟩
      cases b <;> simp only [h9, c3, e681, e1, e3, ec, j0, s0, p1, mz_t, mz_ts, lx_266_1, lb_266_1, ee_turn, k_0, k_1, k_3, k_4294967294, k_4294967295, k_681, nz_1, nz_3, nz_681, v_bin, v_call, v_cmp, v_cons, v_get, v_idx, v_int, v_loc, v_nil, v_not, v_z, w_if, w_inc, w_ret, w_seq, w_set, w_skip, List.getElem?_cons_zero, List.getElem?_cons_succ, List.set_cons_zero, List.set_cons_succ, ee_cmp0, ee_cmp1, ee_cmp2, ee_cmp3, ee_cmp4, ee_cmp5, ee_cmpL0, ee_cmpL1, ee_cmpL2, ee_cmpL3, ee_cmpL4, ee_cmpL5, ee_tru_eb, decide_eq_true_eq, ib_i, ie_b, ie_f, ie_t, ib_l, fin_i, fin_l, fin_v, fin_z, fin_a, fin_n, ee_b_0, ee_fld0, ee_fld1, ee_fld2, ee_fld3, bi_0, bi_1, bi_2, bi_3, bi_4, bi_5, bi_6, bi_7, bi_8, bi_9, bi_10, bl_20, bl_21, bl_22, bl_23, bl_24, bl_25, bl_26, bl_48, bl_49, un_0, un_1, un_2, un_3, if_true, if_false, ite_true, ite_false, Bool.false_eq_true, Bool.not_eq_false, decide_not, Bool.not_not, reduceCtorEq, st_i, st_l, st_r, st_n, ee_noL, ee_noL.eq_1, List.length_cons, List.length_nil, Nat.reduceAdd, Nat.reduceLT, Nat.zero_add, and_true, true_and, and_self, fin_ite, pu_0, pu_1, pu_3, sto_0, el_0, Bool.not_eq_true, decide_eq_false_iff_not, Bool.decide_eq_true, Bool.decide_eq_false, decide_true, decide_false, Bool.not_true, Bool.not_false, Bool.and_self, Bool.and_true, Bool.and_false, Bool.true_and, Bool.false_and, Bool.or_true, Bool.or_false, Bool.true_or, Bool.false_or, if_true, if_false, Bool.false_eq_true, tc_0, ix_0, tc_1, ix_1, tc_3, ix_3, tc_681, ix_681, mz_0, mz_1, mz_a, rvs, j_s, j_a, wI_at, Nat.reduceEqDiff, zero_ne_one_n, one_ne_zero_n]
    cases b
    · refine ⟨Z1, some k, hW1, fun w h1 => ?_, fun w hM => ?_⟩
      · obtain ⟨w', p1, p2, p3⟩ := tC w h1
        refine ⟨w', ?_, p2, p3⟩
        rw [ee_wh_eq, p1]
        rfl
      · obtain ⟨w', p1, p2, p3⟩ := tM w hM
        refine ⟨w', ?_, p2, p3⟩
        rw [ee_wh_eq, p1]
        rfl
    · obtain ⟨Z2, o, hW2, hC2, hM2⟩ := ih (k + 1) Z1 (by omega) hW1 (by rw [hK1]; exact ht) (by rw [hK2]; exact hT)
      refine ⟨Z2, o, hW2, fun w h1 => ?_, fun w hM => ?_⟩
      · obtain ⟨w', p1, p2, p3⟩ := tC w h1
        obtain ⟨w2, r1, r2, r3⟩ := hC2 w' p2
        refine ⟨w2, ?_, r2, chg_trans p3 r3⟩
        rw [ee_wh_eq, p1]
        exact r1
      · obtain ⟨w', p1, p2, p3⟩ := tM w hM
        obtain ⟨w2, r1, r2, r3⟩ := hM2 w' p2
        refine ⟨w2, ?_, r2, chk_trans p3 r3⟩
        rw [ee_wh_eq, p1]
        exact r1
theorem b_played (hd : 13 ≤ d) (hS : Sim w) (x : Int32) : Both P d 101 266 [.int x] w := by
  obtain ⟨Z, h1, h2, h3⟩ := hS
  obtain ⟨d, rfl⟩ : ∃ k, d = k + 1 := ⟨d - 1, by omega⟩
  have hd1 : 1 ≤ d := by omega
  have hd2 : 2 ≤ d := by omega
  obtain ⟨n, n1, n2, n3, -⟩ := rul_of h3
  have h4 : w.1 1 4 = Int32.ofNat n := h1.1.2.2.2.1.2.2.1.trans n2
  have em : (Int32.ofNat n - 1).toInt = (n : Int) - 1 := by
    rw [nxv_1 (by omega)]; exact nxv_t (by omega)
  by_cases hx : ∃ i, i < n ∧ x = Int32.ofNat i
  · obtain ⟨t, ht, rfl⟩ := hx
    have a := h2.2.2.1 t (by omega) (by omega)
    obtain ⟨Z', o, hW, hC, hM⟩ := s_loop (P := P) (d := d) (by omega) (show t < 4 by omega) a.1 (fun i hi => by
      obtain ⟨q, q1, q2, -⟩ := a.2.2.1 i hi
      exact ⟨q, q1, q2⟩) (Z.2.2.1 t).1.1 0 Z (by omega) h3 (by omega) rfl
    rw [k_0] at hC hM
    refine both_of h2 h3 hW (r := match o with | none => .int (-1) | some j => .int (Int32.ofNat j)) ?_ ?_
    · obtain ⟨w', p1, p2, p3⟩ := hC w h1
      refine ⟨w', ?_, p2, p3⟩
      have ti := c_textIs (P := P) hd2 n1 h4 ht
      rw [rn_101 cz_0]
      cases o with
      | none =>
        unfold lo at p1
        simp only [ti, w_while, p1, be_101, k_0, k_24, k_4294967294, k_4294967295, nz_24, v_and, v_call, v_cmp, v_cons, v_get, v_idx, v_int, v_isnull, v_loc, v_nil, v_not, v_z, w_if, w_inc, w_ret, w_seq, w_set, w_skip, List.getElem?_cons_zero, List.getElem?_cons_succ, List.set_cons_zero, List.set_cons_succ, ee_cmp0, ee_cmp1, ee_cmp2, ee_cmp3, ee_cmp4, ee_cmp5, ee_cmpL0, ee_cmpL1, ee_cmpL2, ee_cmpL3, ee_cmpL4, ee_cmpL5, ee_tru_eb, decide_eq_true_eq, ib_i, ie_b, ie_f, ie_t, ib_l, fin_i, fin_l, fin_v, fin_z, fin_a, fin_n, ee_b_0, ee_fld0, ee_fld1, ee_fld2, ee_fld3, bi_0, bi_1, bi_2, bi_3, bi_4, bi_5, bi_6, bi_7, bi_8, bi_9, bi_10, bl_20, bl_21, bl_22, bl_23, bl_24, bl_25, bl_26, bl_48, bl_49, un_0, un_1, un_2, un_3, if_true, if_false, ite_true, ite_false, Bool.false_eq_true, Bool.not_eq_false, decide_not, Bool.not_not, reduceCtorEq, st_i, st_l, st_r, st_n, ee_noL, ee_noL.eq_1, List.length_cons, List.length_nil, Nat.reduceAdd, Nat.reduceLT, Nat.zero_add, and_true, true_and, and_self, fin_ite, pu_0, pu_1, pu_3, sto_0, el_0, Bool.not_eq_true, decide_eq_false_iff_not, Bool.decide_eq_true, Bool.decide_eq_false, decide_true, decide_false, Bool.not_true, Bool.not_false, Bool.and_self, Bool.and_true, Bool.and_false, Bool.true_and, Bool.false_and, Bool.or_true, Bool.or_false, Bool.true_or, Bool.false_or, if_true, if_false, Bool.false_eq_true]
      | some j =>
        unfold lo at p1
        simp only [ti, w_while, p1, be_101, k_0, k_24, k_4294967294, k_4294967295, nz_24, v_and, v_call, v_cmp, v_cons, v_get, v_idx, v_int, v_isnull, v_loc, v_nil, v_not, v_z, w_if, w_inc, w_ret, w_seq, w_set, w_skip, List.getElem?_cons_zero, List.getElem?_cons_succ, List.set_cons_zero, List.set_cons_succ, ee_cmp0, ee_cmp1, ee_cmp2, ee_cmp3, ee_cmp4, ee_cmp5, ee_cmpL0, ee_cmpL1, ee_cmpL2, ee_cmpL3, ee_cmpL4, ee_cmpL5, ee_tru_eb, decide_eq_true_eq, ib_i, ie_b, ie_f, ie_t, ib_l, fin_i, fin_l, fin_v, fin_z, fin_a, fin_n, ee_b_0, ee_fld0, ee_fld1, ee_fld2, ee_fld3, bi_0, bi_1, bi_2, bi_3, bi_4, bi_5, bi_6, bi_7, bi_8, bi_9, bi_10, bl_20, bl_21, bl_22, bl_23, bl_24, bl_25, bl_26, bl_48, bl_49, un_0, un_1, un_2, un_3, if_true, if_false, ite_true, ite_false, Bool.false_eq_true, Bool.not_eq_false, decide_not, Bool.not_not, reduceCtorEq, st_i, st_l, st_r, st_n, ee_noL, ee_noL.eq_1, List.length_cons, List.length_nil, Nat.reduceAdd, Nat.reduceLT, Nat.zero_add, and_true, true_and, and_self, fin_ite, pu_0, pu_1, pu_3, sto_0, el_0, Bool.not_eq_true, decide_eq_false_iff_not, Bool.decide_eq_true, Bool.decide_eq_false, decide_true, decide_false, Bool.not_true, Bool.not_false, Bool.and_self, Bool.and_true, Bool.and_false, Bool.true_and, Bool.false_and, Bool.or_true, Bool.or_false, Bool.true_or, Bool.false_or, if_true, if_false, Bool.false_eq_true]
    · intro w1 hM1
      obtain ⟨w', p1, p2, p3⟩ := hM w1 hM1
      refine ⟨w', ?_, p2, p3⟩
      have c0 : w1.1 237 0 = Int32.ofNat n := hM1.1.1.1.trans n2
      have q : (decide ((0 : Int32) ≤ Int32.ofNat t) && decide (Int32.ofNat t ≤ Int32.ofNat n - 1)) = true := by
        rw [in_iff, nI_t (by omega), em, show (0 : Int32).toInt = 0 from rfl]
        omega
      rw [rn_266 mz_0]
      cases o with
      | none =>
        unfold lo at p1
        simp only [c0, r_isIn hd1, q, w_while, p1, be_266, k_0, k_1, k_3, k_4294967294, k_4294967295, k_681, nz_1, nz_3, nz_681, v_bin, v_call, v_cmp, v_cons, v_get, v_idx, v_int, v_loc, v_nil, v_not, v_z, w_if, w_inc, w_ret, w_seq, w_set, w_skip, List.getElem?_cons_zero, List.getElem?_cons_succ, List.set_cons_zero, List.set_cons_succ, ee_cmp0, ee_cmp1, ee_cmp2, ee_cmp3, ee_cmp4, ee_cmp5, ee_cmpL0, ee_cmpL1, ee_cmpL2, ee_cmpL3, ee_cmpL4, ee_cmpL5, ee_tru_eb, decide_eq_true_eq, ib_i, ie_b, ie_f, ie_t, ib_l, fin_i, fin_l, fin_v, fin_z, fin_a, fin_n, ee_b_0, ee_fld0, ee_fld1, ee_fld2, ee_fld3, bi_0, bi_1, bi_2, bi_3, bi_4, bi_5, bi_6, bi_7, bi_8, bi_9, bi_10, bl_20, bl_21, bl_22, bl_23, bl_24, bl_25, bl_26, bl_48, bl_49, un_0, un_1, un_2, un_3, if_true, if_false, ite_true, ite_false, Bool.false_eq_true, Bool.not_eq_false, decide_not, Bool.not_not, reduceCtorEq, st_i, st_l, st_r, st_n, ee_noL, ee_noL.eq_1, List.length_cons, List.length_nil, Nat.reduceAdd, Nat.reduceLT, Nat.zero_add, and_true, true_and, and_self, fin_ite, pu_0, pu_1, pu_3, sto_0, el_0, Bool.not_eq_true, decide_eq_false_iff_not, Bool.decide_eq_true, Bool.decide_eq_false, decide_true, decide_false, Bool.not_true, Bool.not_false, Bool.and_self, Bool.and_true, Bool.and_false, Bool.true_and, Bool.false_and, Bool.or_true, Bool.or_false, Bool.true_or, Bool.false_or, if_true, if_false, Bool.false_eq_true, ix_0, ix_1, ix_3, ix_681, tc_0, tc_1, tc_3, tc_681, mz_0, mz_1, mz_a, rvs, j_s, j_a, wI_at, Nat.reduceEqDiff, zero_ne_one_n, one_ne_zero_n]
      | some j =>
        unfold lo at p1
        simp only [c0, r_isIn hd1, q, w_while, p1, be_266, k_0, k_1, k_3, k_4294967294, k_4294967295, k_681, nz_1, nz_3, nz_681, v_bin, v_call, v_cmp, v_cons, v_get, v_idx, v_int, v_loc, v_nil, v_not, v_z, w_if, w_inc, w_ret, w_seq, w_set, w_skip, List.getElem?_cons_zero, List.getElem?_cons_succ, List.set_cons_zero, List.set_cons_succ, ee_cmp0, ee_cmp1, ee_cmp2, ee_cmp3, ee_cmp4, ee_cmp5, ee_cmpL0, ee_cmpL1, ee_cmpL2, ee_cmpL3, ee_cmpL4, ee_cmpL5, ee_tru_eb, decide_eq_true_eq, ib_i, ie_b, ie_f, ie_t, ib_l, fin_i, fin_l, fin_v, fin_z, fin_a, fin_n, ee_b_0, ee_fld0, ee_fld1, ee_fld2, ee_fld3, bi_0, bi_1, bi_2, bi_3, bi_4, bi_5, bi_6, bi_7, bi_8, bi_9, bi_10, bl_20, bl_21, bl_22, bl_23, bl_24, bl_25, bl_26, bl_48, bl_49, un_0, un_1, un_2, un_3, if_true, if_false, ite_true, ite_false, Bool.false_eq_true, Bool.not_eq_false, decide_not, Bool.not_not, reduceCtorEq, st_i, st_l, st_r, st_n, ee_noL, ee_noL.eq_1, List.length_cons, List.length_nil, Nat.reduceAdd, Nat.reduceLT, Nat.zero_add, and_true, true_and, and_self, fin_ite, pu_0, pu_1, pu_3, sto_0, el_0, Bool.not_eq_true, decide_eq_false_iff_not, Bool.decide_eq_true, Bool.decide_eq_false, decide_true, decide_false, Bool.not_true, Bool.not_false, Bool.and_self, Bool.and_true, Bool.and_false, Bool.true_and, Bool.false_and, Bool.or_true, Bool.or_false, Bool.true_or, Bool.false_or, if_true, if_false, Bool.false_eq_true, ix_0, ix_1, ix_3, ix_681, tc_0, tc_1, tc_3, tc_681, mz_0, mz_1, mz_a, rvs, j_s, j_a, wI_at, Nat.reduceEqDiff, zero_ne_one_n, one_ne_zero_n]
  · refine both_q h1 h2 h3 (r := .int (-2)) ?_ ?_
    · have tn := c_textNo (P := P) hd2 n1 h4 hx
      rw [rn_101 cz_0]
      simp only [tn, be_101, k_0, k_24, k_4294967294, k_4294967295, nz_24, v_and, v_call, v_cmp, v_cons, v_get, v_idx, v_int, v_isnull, v_loc, v_nil, v_not, v_z, w_if, w_inc, w_ret, w_seq, w_set, w_skip, List.getElem?_cons_zero, List.getElem?_cons_succ, List.set_cons_zero, List.set_cons_succ, ee_cmp0, ee_cmp1, ee_cmp2, ee_cmp3, ee_cmp4, ee_cmp5, ee_cmpL0, ee_cmpL1, ee_cmpL2, ee_cmpL3, ee_cmpL4, ee_cmpL5, ee_tru_eb, decide_eq_true_eq, ib_i, ie_b, ie_f, ie_t, ib_l, fin_i, fin_l, fin_v, fin_z, fin_a, fin_n, ee_b_0, ee_fld0, ee_fld1, ee_fld2, ee_fld3, bi_0, bi_1, bi_2, bi_3, bi_4, bi_5, bi_6, bi_7, bi_8, bi_9, bi_10, bl_20, bl_21, bl_22, bl_23, bl_24, bl_25, bl_26, bl_48, bl_49, un_0, un_1, un_2, un_3, if_true, if_false, ite_true, ite_false, Bool.false_eq_true, Bool.not_eq_false, decide_not, Bool.not_not, reduceCtorEq, st_i, st_l, st_r, st_n, ee_noL, ee_noL.eq_1, List.length_cons, List.length_nil, Nat.reduceAdd, Nat.reduceLT, Nat.zero_add, and_true, true_and, and_self, fin_ite, pu_0, pu_1, pu_3, sto_0, el_0, Bool.not_eq_true, decide_eq_false_iff_not, Bool.decide_eq_true, Bool.decide_eq_false, decide_true, decide_false, Bool.not_true, Bool.not_false, Bool.and_self, Bool.and_true, Bool.and_false, Bool.true_and, Bool.false_and, Bool.or_true, Bool.or_false, Bool.true_or, Bool.false_or, if_true, if_false, Bool.false_eq_true]
    · have c0 : w.1 237 0 = Int32.ofNat n := h2.1.1.1.trans n2
      have q : (decide ((0 : Int32) ≤ x) && decide (x ≤ Int32.ofNat n - 1)) = false := bf (fun z => by
        rw [in_iff, em, show (0 : Int32).toInt = 0 from rfl] at z
        exact hx ⟨x.toInt.toNat, by omega, ofN z.1⟩)
      rw [rn_266 mz_0]
      simp only [c0, r_isIn hd1, q, be_266, k_0, k_1, k_3, k_4294967294, k_4294967295, k_681, nz_1, nz_3, nz_681, v_bin, v_call, v_cmp, v_cons, v_get, v_idx, v_int, v_loc, v_nil, v_not, v_z, w_if, w_inc, w_ret, w_seq, w_set, w_skip, List.getElem?_cons_zero, List.getElem?_cons_succ, List.set_cons_zero, List.set_cons_succ, ee_cmp0, ee_cmp1, ee_cmp2, ee_cmp3, ee_cmp4, ee_cmp5, ee_cmpL0, ee_cmpL1, ee_cmpL2, ee_cmpL3, ee_cmpL4, ee_cmpL5, ee_tru_eb, decide_eq_true_eq, ib_i, ie_b, ie_f, ie_t, ib_l, fin_i, fin_l, fin_v, fin_z, fin_a, fin_n, ee_b_0, ee_fld0, ee_fld1, ee_fld2, ee_fld3, bi_0, bi_1, bi_2, bi_3, bi_4, bi_5, bi_6, bi_7, bi_8, bi_9, bi_10, bl_20, bl_21, bl_22, bl_23, bl_24, bl_25, bl_26, bl_48, bl_49, un_0, un_1, un_2, un_3, if_true, if_false, ite_true, ite_false, Bool.false_eq_true, Bool.not_eq_false, decide_not, Bool.not_not, reduceCtorEq, st_i, st_l, st_r, st_n, ee_noL, ee_noL.eq_1, List.length_cons, List.length_nil, Nat.reduceAdd, Nat.reduceLT, Nat.zero_add, and_true, true_and, and_self, fin_ite, pu_0, pu_1, pu_3, sto_0, el_0, Bool.not_eq_true, decide_eq_false_iff_not, Bool.decide_eq_true, Bool.decide_eq_false, decide_true, decide_false, Bool.not_true, Bool.not_false, Bool.and_self, Bool.and_true, Bool.and_false, Bool.true_and, Bool.false_and, Bool.or_true, Bool.or_false, Bool.true_or, Bool.false_or, if_true, if_false, Bool.false_eq_true, ix_0, ix_1, ix_3, ix_681, tc_0, tc_1, tc_3, tc_681, mz_0, mz_1, mz_a, rvs, j_s, j_a, wI_at, Nat.reduceEqDiff, zero_ne_one_n, one_ne_zero_n]
end BPY
