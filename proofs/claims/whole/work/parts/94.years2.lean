/-! years, whole -/
section BY3
variable {P : Nat → Nat → List Value → ee_W → Option (List Value × ee_W)} {d : Nat} {w : ee_W} {Z : ZX}
theorem isT {x : Int32} (h : bI x 0 63) : (decide (0 ≤ x) && decide (x < 64)) = true := by
  rw [← i63, in_iff]
  exact h
theorem m_happens (hd : 11 ≤ d) (hM : MZ w Z) (h3 : WZ Z) {x : Int32} (hx : okX x) : ∃ w', ee_run ee_B P d 269 [.ref 236, .int x] w = some ([], w') ∧ MZ w' (zh Z (xhap Z x)) ∧ chk pst w w' := by
  obtain ⟨d, rfl⟩ : ∃ k, d = k + 1 := ⟨d - 1, by omega⟩
  have hd1 : 1 ≤ d := by omega
  have hd2 : 2 ≤ d := by omega
  have hd3 : 3 ≤ d := by omega
  have hd10 : 10 ≤ d := by omega
  have wf := h3.1.1.1
  have hz := MHz_of hM.1 hM.2.2.2.2.2 h3.1.1.2.1
  have e5 : w.1 237 5 = Z.1.1.1 0 := hM.1.2.1.1 0 (by omega) (by omega)
  have k6 : x - x / 6 * 6 = rm x 6 := rfl
  have k4 : x - x / 4 * 4 = rm x 4 := rfl
  have k11 : x - x / 11 * 11 = rm x 11 := rfl
  have k64 : x / 6 - x / 6 / 64 * 64 = rm (x / 6) 64 := rfl
  have same : MZ w (zh Z Z.1.1) := hM
  have mono : ∀ {w'}, chk (ph true) w w' → chk (psm true) w w' := fun h => chk_mono h ph_psm
  have cs := m_canSeek (P := P) (w := w) hd3 hz (rm (x / 6) 64)
  rw [isT (rm64_b hx)] at cs
  rw [rn_269 mz_0]
  unfold xhap
  by_cases q0 : rm x 6 = 0
  · rw [if_pos q0]
    by_cases q1 : rm x 4 = 2
    · by_cases q2 : rm (x / 6) 64 = Z.1.1.1 4
      · rw [if_neg (fun h => h.2 q2)]
        rw [decide_eq_true q2] at cs
        refine ⟨w, ?_, same, chk_refl _ _⟩
        simp +decide only [k6, k4, k11, k64, q0, q1, cs, memc, memn, bd_269, k_11, k_2, k_3, k_4, k_5, k_6, k_64, k_9999, nz_11, nz_2, nz_3, nz_4, nz_5, nz_6, nz_64, nz_9999, v_and, v_bin, v_call, v_cmp, v_cons, v_get, v_idx, v_int, v_loc, v_nil, v_z, w_case, w_dflt, w_exp0, w_exp1, w_if, w_retv, w_seq, w_skip, w_switch, List.getElem?_cons_zero, List.getElem?_cons_succ, List.set_cons_zero, List.set_cons_succ, ee_cmp0, ee_cmp1, ee_cmp2, ee_cmp3, ee_cmp4, ee_cmp5, ee_cmpL0, ee_cmpL1, ee_cmpL2, ee_cmpL3, ee_cmpL4, ee_cmpL5, ee_tru_eb, decide_eq_true_eq, ib_i, ie_b, ie_f, ie_t, ib_l, fin_i, fin_l, fin_v, fin_z, fin_a, fin_n, ee_b_0, ee_fld0, ee_fld1, ee_fld2, ee_fld3, bi_0, bi_1, bi_2, bi_3, bi_4, bi_5, bi_6, bi_7, bi_8, bi_9, bi_10, bl_20, bl_21, bl_22, bl_23, bl_24, bl_25, bl_26, bl_48, bl_49, un_0, un_1, un_2, un_3, if_true, if_false, ite_true, ite_false, Bool.false_eq_true, Bool.not_eq_false, decide_not, Bool.not_not, reduceCtorEq, st_i, st_l, st_r, st_n, ee_noL, ee_noL.eq_1, List.length_cons, List.length_nil, Nat.reduceAdd, Nat.reduceLT, Nat.zero_add, and_true, true_and, and_self, fin_ite, pu_0, pu_1, pu_3, sto_0, el_0, Bool.not_eq_true, decide_eq_false_iff_not, Bool.decide_eq_true, Bool.decide_eq_false, decide_true, decide_false, Bool.not_true, Bool.not_false, Bool.and_self, Bool.and_true, Bool.and_false, Bool.true_and, Bool.false_and, Bool.or_true, Bool.or_false, Bool.true_or, Bool.false_or, if_true, if_false, Bool.false_eq_true]
      · rw [if_pos ⟨q1, q2⟩]
        rw [decide_eq_false q2] at cs
        obtain ⟨w', m1, m2, m3⟩ := m_seekNow (P := P) hd2 hz (rm (x / 6) 64)
        obtain ⟨r1, r2⟩ := m_head hM h3 (mono m3) m2
        refine ⟨w', ?_, r1, r2⟩
        simp +decide only [k6, k4, k11, k64, q0, q1, cs, memc, memn, m1, bd_269, k_11, k_2, k_3, k_4, k_5, k_6, k_64, k_9999, nz_11, nz_2, nz_3, nz_4, nz_5, nz_6, nz_64, nz_9999, v_and, v_bin, v_call, v_cmp, v_cons, v_get, v_idx, v_int, v_loc, v_nil, v_z, w_case, w_dflt, w_exp0, w_exp1, w_if, w_retv, w_seq, w_skip, w_switch, List.getElem?_cons_zero, List.getElem?_cons_succ, List.set_cons_zero, List.set_cons_succ, ee_cmp0, ee_cmp1, ee_cmp2, ee_cmp3, ee_cmp4, ee_cmp5, ee_cmpL0, ee_cmpL1, ee_cmpL2, ee_cmpL3, ee_cmpL4, ee_cmpL5, ee_tru_eb, decide_eq_true_eq, ib_i, ie_b, ie_f, ie_t, ib_l, fin_i, fin_l, fin_v, fin_z, fin_a, fin_n, ee_b_0, ee_fld0, ee_fld1, ee_fld2, ee_fld3, bi_0, bi_1, bi_2, bi_3, bi_4, bi_5, bi_6, bi_7, bi_8, bi_9, bi_10, bl_20, bl_21, bl_22, bl_23, bl_24, bl_25, bl_26, bl_48, bl_49, un_0, un_1, un_2, un_3, if_true, if_false, ite_true, ite_false, Bool.false_eq_true, Bool.not_eq_false, decide_not, Bool.not_not, reduceCtorEq, st_i, st_l, st_r, st_n, ee_noL, ee_noL.eq_1, List.length_cons, List.length_nil, Nat.reduceAdd, Nat.reduceLT, Nat.zero_add, and_true, true_and, and_self, fin_ite, pu_0, pu_1, pu_3, sto_0, el_0, Bool.not_eq_true, decide_eq_false_iff_not, Bool.decide_eq_true, Bool.decide_eq_false, decide_true, decide_false, Bool.not_true, Bool.not_false, Bool.and_self, Bool.and_true, Bool.and_false, Bool.true_and, Bool.false_and, Bool.or_true, Bool.or_false, Bool.true_or, Bool.false_or, if_true, if_false, Bool.false_eq_true]
    · rw [if_neg (fun h => q1 h.1)]
      refine ⟨w, ?_, same, chk_refl _ _⟩
      simp +decide only [k6, k4, k11, k64, q0, q1, memc, memn, bd_269, k_11, k_2, k_3, k_4, k_5, k_6, k_64, k_9999, nz_11, nz_2, nz_3, nz_4, nz_5, nz_6, nz_64, nz_9999, v_and, v_bin, v_call, v_cmp, v_cons, v_get, v_idx, v_int, v_loc, v_nil, v_z, w_case, w_dflt, w_exp0, w_exp1, w_if, w_retv, w_seq, w_skip, w_switch, List.getElem?_cons_zero, List.getElem?_cons_succ, List.set_cons_zero, List.set_cons_succ, ee_cmp0, ee_cmp1, ee_cmp2, ee_cmp3, ee_cmp4, ee_cmp5, ee_cmpL0, ee_cmpL1, ee_cmpL2, ee_cmpL3, ee_cmpL4, ee_cmpL5, ee_tru_eb, decide_eq_true_eq, ib_i, ie_b, ie_f, ie_t, ib_l, fin_i, fin_l, fin_v, fin_z, fin_a, fin_n, ee_b_0, ee_fld0, ee_fld1, ee_fld2, ee_fld3, bi_0, bi_1, bi_2, bi_3, bi_4, bi_5, bi_6, bi_7, bi_8, bi_9, bi_10, bl_20, bl_21, bl_22, bl_23, bl_24, bl_25, bl_26, bl_48, bl_49, un_0, un_1, un_2, un_3, if_true, if_false, ite_true, ite_false, Bool.false_eq_true, Bool.not_eq_false, decide_not, Bool.not_not, reduceCtorEq, st_i, st_l, st_r, st_n, ee_noL, ee_noL.eq_1, List.length_cons, List.length_nil, Nat.reduceAdd, Nat.reduceLT, Nat.zero_add, and_true, true_and, and_self, fin_ite, pu_0, pu_1, pu_3, sto_0, el_0, Bool.not_eq_true, decide_eq_false_iff_not, Bool.decide_eq_true, Bool.decide_eq_false, decide_true, decide_false, Bool.not_true, Bool.not_false, Bool.and_self, Bool.and_true, Bool.and_false, Bool.true_and, Bool.false_and, Bool.or_true, Bool.or_false, Bool.true_or, Bool.false_or, if_true, if_false, Bool.false_eq_true]
  · rw [if_neg q0]
    by_cases q1 : rm x 6 = 1
    · rw [if_pos q1]
      by_cases q2 : rm x 4 = 3
      · by_cases q3 : rm x 11 = 5
        · rw [if_neg (fun h => h.2 q3)]
          refine ⟨w, ?_, same, chk_refl _ _⟩
          simp +decide only [k6, k4, k11, k64, q1, q2, q3, memc, memn, bd_269, k_11, k_2, k_3, k_4, k_5, k_6, k_64, k_9999, nz_11, nz_2, nz_3, nz_4, nz_5, nz_6, nz_64, nz_9999, v_and, v_bin, v_call, v_cmp, v_cons, v_get, v_idx, v_int, v_loc, v_nil, v_z, w_case, w_dflt, w_exp0, w_exp1, w_if, w_retv, w_seq, w_skip, w_switch, List.getElem?_cons_zero, List.getElem?_cons_succ, List.set_cons_zero, List.set_cons_succ, ee_cmp0, ee_cmp1, ee_cmp2, ee_cmp3, ee_cmp4, ee_cmp5, ee_cmpL0, ee_cmpL1, ee_cmpL2, ee_cmpL3, ee_cmpL4, ee_cmpL5, ee_tru_eb, decide_eq_true_eq, ib_i, ie_b, ie_f, ie_t, ib_l, fin_i, fin_l, fin_v, fin_z, fin_a, fin_n, ee_b_0, ee_fld0, ee_fld1, ee_fld2, ee_fld3, bi_0, bi_1, bi_2, bi_3, bi_4, bi_5, bi_6, bi_7, bi_8, bi_9, bi_10, bl_20, bl_21, bl_22, bl_23, bl_24, bl_25, bl_26, bl_48, bl_49, un_0, un_1, un_2, un_3, if_true, if_false, ite_true, ite_false, Bool.false_eq_true, Bool.not_eq_false, decide_not, Bool.not_not, reduceCtorEq, st_i, st_l, st_r, st_n, ee_noL, ee_noL.eq_1, List.length_cons, List.length_nil, Nat.reduceAdd, Nat.reduceLT, Nat.zero_add, and_true, true_and, and_self, fin_ite, pu_0, pu_1, pu_3, sto_0, el_0, Bool.not_eq_true, decide_eq_false_iff_not, Bool.decide_eq_true, Bool.decide_eq_false, decide_true, decide_false, Bool.not_true, Bool.not_false, Bool.and_self, Bool.and_true, Bool.and_false, Bool.true_and, Bool.false_and, Bool.or_true, Bool.or_false, Bool.true_or, Bool.false_or, if_true, if_false, Bool.false_eq_true]
        · rw [if_pos ⟨q2, q3⟩]
          obtain ⟨w', m1, m2, m3⟩ := m_shakeNow (P := P) hd2 hz (rm x 11 - 5)
          obtain ⟨r1, r2⟩ := m_head hM h3 (mono m3) m2
          refine ⟨w', ?_, r1, r2⟩
          simp +decide only [k6, k4, k11, k64, q1, q2, q3, memc, memn, m1, bd_269, k_11, k_2, k_3, k_4, k_5, k_6, k_64, k_9999, nz_11, nz_2, nz_3, nz_4, nz_5, nz_6, nz_64, nz_9999, v_and, v_bin, v_call, v_cmp, v_cons, v_get, v_idx, v_int, v_loc, v_nil, v_z, w_case, w_dflt, w_exp0, w_exp1, w_if, w_retv, w_seq, w_skip, w_switch, List.getElem?_cons_zero, List.getElem?_cons_succ, List.set_cons_zero, List.set_cons_succ, ee_cmp0, ee_cmp1, ee_cmp2, ee_cmp3, ee_cmp4, ee_cmp5, ee_cmpL0, ee_cmpL1, ee_cmpL2, ee_cmpL3, ee_cmpL4, ee_cmpL5, ee_tru_eb, decide_eq_true_eq, ib_i, ie_b, ie_f, ie_t, ib_l, fin_i, fin_l, fin_v, fin_z, fin_a, fin_n, ee_b_0, ee_fld0, ee_fld1, ee_fld2, ee_fld3, bi_0, bi_1, bi_2, bi_3, bi_4, bi_5, bi_6, bi_7, bi_8, bi_9, bi_10, bl_20, bl_21, bl_22, bl_23, bl_24, bl_25, bl_26, bl_48, bl_49, un_0, un_1, un_2, un_3, if_true, if_false, ite_true, ite_false, Bool.false_eq_true, Bool.not_eq_false, decide_not, Bool.not_not, reduceCtorEq, st_i, st_l, st_r, st_n, ee_noL, ee_noL.eq_1, List.length_cons, List.length_nil, Nat.reduceAdd, Nat.reduceLT, Nat.zero_add, and_true, true_and, and_self, fin_ite, pu_0, pu_1, pu_3, sto_0, el_0, Bool.not_eq_true, decide_eq_false_iff_not, Bool.decide_eq_true, Bool.decide_eq_false, decide_true, decide_false, Bool.not_true, Bool.not_false, Bool.and_self, Bool.and_true, Bool.and_false, Bool.true_and, Bool.false_and, Bool.or_true, Bool.or_false, Bool.true_or, Bool.false_or, if_true, if_false, Bool.false_eq_true]
      · rw [if_neg (fun h => q2 h.1)]
        refine ⟨w, ?_, same, chk_refl _ _⟩
        simp +decide only [k6, k4, k11, k64, q1, q2, memc, memn, bd_269, k_11, k_2, k_3, k_4, k_5, k_6, k_64, k_9999, nz_11, nz_2, nz_3, nz_4, nz_5, nz_6, nz_64, nz_9999, v_and, v_bin, v_call, v_cmp, v_cons, v_get, v_idx, v_int, v_loc, v_nil, v_z, w_case, w_dflt, w_exp0, w_exp1, w_if, w_retv, w_seq, w_skip, w_switch, List.getElem?_cons_zero, List.getElem?_cons_succ, List.set_cons_zero, List.set_cons_succ, ee_cmp0, ee_cmp1, ee_cmp2, ee_cmp3, ee_cmp4, ee_cmp5, ee_cmpL0, ee_cmpL1, ee_cmpL2, ee_cmpL3, ee_cmpL4, ee_cmpL5, ee_tru_eb, decide_eq_true_eq, ib_i, ie_b, ie_f, ie_t, ib_l, fin_i, fin_l, fin_v, fin_z, fin_a, fin_n, ee_b_0, ee_fld0, ee_fld1, ee_fld2, ee_fld3, bi_0, bi_1, bi_2, bi_3, bi_4, bi_5, bi_6, bi_7, bi_8, bi_9, bi_10, bl_20, bl_21, bl_22, bl_23, bl_24, bl_25, bl_26, bl_48, bl_49, un_0, un_1, un_2, un_3, if_true, if_false, ite_true, ite_false, Bool.false_eq_true, Bool.not_eq_false, decide_not, Bool.not_not, reduceCtorEq, st_i, st_l, st_r, st_n, ee_noL, ee_noL.eq_1, List.length_cons, List.length_nil, Nat.reduceAdd, Nat.reduceLT, Nat.zero_add, and_true, true_and, and_self, fin_ite, pu_0, pu_1, pu_3, sto_0, el_0, Bool.not_eq_true, decide_eq_false_iff_not, Bool.decide_eq_true, Bool.decide_eq_false, decide_true, decide_false, Bool.not_true, Bool.not_false, Bool.and_self, Bool.and_true, Bool.and_false, Bool.true_and, Bool.false_and, Bool.or_true, Bool.or_false, Bool.true_or, Bool.false_or, if_true, if_false, Bool.false_eq_true]
    · rw [if_neg q1]
      by_cases q2 : rm x 6 = 2
      · rw [if_pos q2]
        have go := m_canWrite (P := P) (w := w) hd1 hz
        by_cases q3 : 3 ≤ Z.1.1.1 6
        · rw [if_pos q3]
          rw [decide_eq_true q3] at go
          obtain ⟨w', m1, m2, m3⟩ := m_writeNow (P := P) hd2 hz wf.2.2.2.2.2.2.2.1.1 wf.2.2.2.2.2.2.2.1.2
          obtain ⟨r1, r2⟩ := m_head hM h3 (mono m3) m2
          refine ⟨w', ?_, r1, r2⟩
          simp +decide only [k6, k4, k11, k64, q2, go, memc, memn, m1, bd_269, k_11, k_2, k_3, k_4, k_5, k_6, k_64, k_9999, nz_11, nz_2, nz_3, nz_4, nz_5, nz_6, nz_64, nz_9999, v_and, v_bin, v_call, v_cmp, v_cons, v_get, v_idx, v_int, v_loc, v_nil, v_z, w_case, w_dflt, w_exp0, w_exp1, w_if, w_retv, w_seq, w_skip, w_switch, List.getElem?_cons_zero, List.getElem?_cons_succ, List.set_cons_zero, List.set_cons_succ, ee_cmp0, ee_cmp1, ee_cmp2, ee_cmp3, ee_cmp4, ee_cmp5, ee_cmpL0, ee_cmpL1, ee_cmpL2, ee_cmpL3, ee_cmpL4, ee_cmpL5, ee_tru_eb, decide_eq_true_eq, ib_i, ie_b, ie_f, ie_t, ib_l, fin_i, fin_l, fin_v, fin_z, fin_a, fin_n, ee_b_0, ee_fld0, ee_fld1, ee_fld2, ee_fld3, bi_0, bi_1, bi_2, bi_3, bi_4, bi_5, bi_6, bi_7, bi_8, bi_9, bi_10, bl_20, bl_21, bl_22, bl_23, bl_24, bl_25, bl_26, bl_48, bl_49, un_0, un_1, un_2, un_3, if_true, if_false, ite_true, ite_false, Bool.false_eq_true, Bool.not_eq_false, decide_not, Bool.not_not, reduceCtorEq, st_i, st_l, st_r, st_n, ee_noL, ee_noL.eq_1, List.length_cons, List.length_nil, Nat.reduceAdd, Nat.reduceLT, Nat.zero_add, and_true, true_and, and_self, fin_ite, pu_0, pu_1, pu_3, sto_0, el_0, Bool.not_eq_true, decide_eq_false_iff_not, Bool.decide_eq_true, Bool.decide_eq_false, decide_true, decide_false, Bool.not_true, Bool.not_false, Bool.and_self, Bool.and_true, Bool.and_false, Bool.true_and, Bool.false_and, Bool.or_true, Bool.or_false, Bool.true_or, Bool.false_or, if_true, if_false, Bool.false_eq_true]
        · rw [if_neg q3]
          rw [decide_eq_false q3] at go
          refine ⟨w, ?_, same, chk_refl _ _⟩
          simp +decide only [k6, k4, k11, k64, q2, go, memc, memn, bd_269, k_11, k_2, k_3, k_4, k_5, k_6, k_64, k_9999, nz_11, nz_2, nz_3, nz_4, nz_5, nz_6, nz_64, nz_9999, v_and, v_bin, v_call, v_cmp, v_cons, v_get, v_idx, v_int, v_loc, v_nil, v_z, w_case, w_dflt, w_exp0, w_exp1, w_if, w_retv, w_seq, w_skip, w_switch, List.getElem?_cons_zero, List.getElem?_cons_succ, List.set_cons_zero, List.set_cons_succ, ee_cmp0, ee_cmp1, ee_cmp2, ee_cmp3, ee_cmp4, ee_cmp5, ee_cmpL0, ee_cmpL1, ee_cmpL2, ee_cmpL3, ee_cmpL4, ee_cmpL5, ee_tru_eb, decide_eq_true_eq, ib_i, ie_b, ie_f, ie_t, ib_l, fin_i, fin_l, fin_v, fin_z, fin_a, fin_n, ee_b_0, ee_fld0, ee_fld1, ee_fld2, ee_fld3, bi_0, bi_1, bi_2, bi_3, bi_4, bi_5, bi_6, bi_7, bi_8, bi_9, bi_10, bl_20, bl_21, bl_22, bl_23, bl_24, bl_25, bl_26, bl_48, bl_49, un_0, un_1, un_2, un_3, if_true, if_false, ite_true, ite_false, Bool.false_eq_true, Bool.not_eq_false, decide_not, Bool.not_not, reduceCtorEq, st_i, st_l, st_r, st_n, ee_noL, ee_noL.eq_1, List.length_cons, List.length_nil, Nat.reduceAdd, Nat.reduceLT, Nat.zero_add, and_true, true_and, and_self, fin_ite, pu_0, pu_1, pu_3, sto_0, el_0, Bool.not_eq_true, decide_eq_false_iff_not, Bool.decide_eq_true, Bool.decide_eq_false, decide_true, decide_false, Bool.not_true, Bool.not_false, Bool.and_self, Bool.and_true, Bool.and_false, Bool.true_and, Bool.false_and, Bool.or_true, Bool.or_false, Bool.true_or, Bool.false_or, if_true, if_false, Bool.false_eq_true]
      · rw [if_neg q2]
        by_cases q3 : Z.1.1.1 0 < 9999
        · rw [if_pos q3]
          obtain ⟨w', m1, m2, m3⟩ := m_sample (P := P) hd10 hz wf (RM_of hM h3) hM.1.2.2.2.1 hM.1.2.2.2.2.1
          obtain ⟨r1, r2⟩ := m_head hM h3 m3 m2
          refine ⟨w', ?_, r1, r2⟩
          simp only [k6, k4, k11, k64, q0, q1, q2, q3, e5, k_0, k_1, k_2, or_false, memc, memn, m1, bd_269, k_11, k_2, k_3, k_4, k_5, k_6, k_64, k_9999, nz_11, nz_2, nz_3, nz_4, nz_5, nz_6, nz_64, nz_9999, v_and, v_bin, v_call, v_cmp, v_cons, v_get, v_idx, v_int, v_loc, v_nil, v_z, w_case, w_dflt, w_exp0, w_exp1, w_if, w_retv, w_seq, w_skip, w_switch, List.getElem?_cons_zero, List.getElem?_cons_succ, List.set_cons_zero, List.set_cons_succ, ee_cmp0, ee_cmp1, ee_cmp2, ee_cmp3, ee_cmp4, ee_cmp5, ee_cmpL0, ee_cmpL1, ee_cmpL2, ee_cmpL3, ee_cmpL4, ee_cmpL5, ee_tru_eb, decide_eq_true_eq, ib_i, ie_b, ie_f, ie_t, ib_l, fin_i, fin_l, fin_v, fin_z, fin_a, fin_n, ee_b_0, ee_fld0, ee_fld1, ee_fld2, ee_fld3, bi_0, bi_1, bi_2, bi_3, bi_4, bi_5, bi_6, bi_7, bi_8, bi_9, bi_10, bl_20, bl_21, bl_22, bl_23, bl_24, bl_25, bl_26, bl_48, bl_49, un_0, un_1, un_2, un_3, if_true, if_false, ite_true, ite_false, Bool.false_eq_true, Bool.not_eq_false, decide_not, Bool.not_not, reduceCtorEq, st_i, st_l, st_r, st_n, ee_noL, ee_noL.eq_1, List.length_cons, List.length_nil, Nat.reduceAdd, Nat.reduceLT, Nat.zero_add, and_true, true_and, and_self, fin_ite, pu_0, pu_1, pu_3, sto_0, el_0, Bool.not_eq_true, decide_eq_false_iff_not, Bool.decide_eq_true, Bool.decide_eq_false, decide_true, decide_false, Bool.not_true, Bool.not_false, Bool.and_self, Bool.and_true, Bool.and_false, Bool.true_and, Bool.false_and, Bool.or_true, Bool.or_false, Bool.true_or, Bool.false_or, if_true, if_false, Bool.false_eq_true, ix_11, ix_2, ix_3, ix_4, ix_5, ix_6, ix_64, ix_9999, tc_11, tc_2, tc_3, tc_4, tc_5, tc_6, tc_64, tc_9999, mz_0, mz_1, mz_a, rvs, j_s, j_a, wI_at, Nat.reduceEqDiff, zero_ne_one_n, one_ne_zero_n]
        · rw [if_neg q3]
          refine ⟨w, ?_, same, chk_refl _ _⟩
          simp only [k6, k4, k11, k64, q0, q1, q2, q3, e5, k_0, k_1, k_2, or_false, memc, memn, bd_269, k_11, k_2, k_3, k_4, k_5, k_6, k_64, k_9999, nz_11, nz_2, nz_3, nz_4, nz_5, nz_6, nz_64, nz_9999, v_and, v_bin, v_call, v_cmp, v_cons, v_get, v_idx, v_int, v_loc, v_nil, v_z, w_case, w_dflt, w_exp0, w_exp1, w_if, w_retv, w_seq, w_skip, w_switch, List.getElem?_cons_zero, List.getElem?_cons_succ, List.set_cons_zero, List.set_cons_succ, ee_cmp0, ee_cmp1, ee_cmp2, ee_cmp3, ee_cmp4, ee_cmp5, ee_cmpL0, ee_cmpL1, ee_cmpL2, ee_cmpL3, ee_cmpL4, ee_cmpL5, ee_tru_eb, decide_eq_true_eq, ib_i, ie_b, ie_f, ie_t, ib_l, fin_i, fin_l, fin_v, fin_z, fin_a, fin_n, ee_b_0, ee_fld0, ee_fld1, ee_fld2, ee_fld3, bi_0, bi_1, bi_2, bi_3, bi_4, bi_5, bi_6, bi_7, bi_8, bi_9, bi_10, bl_20, bl_21, bl_22, bl_23, bl_24, bl_25, bl_26, bl_48, bl_49, un_0, un_1, un_2, un_3, if_true, if_false, ite_true, ite_false, Bool.false_eq_true, Bool.not_eq_false, decide_not, Bool.not_not, reduceCtorEq, st_i, st_l, st_r, st_n, ee_noL, ee_noL.eq_1, List.length_cons, List.length_nil, Nat.reduceAdd, Nat.reduceLT, Nat.zero_add, and_true, true_and, and_self, fin_ite, pu_0, pu_1, pu_3, sto_0, el_0, Bool.not_eq_true, decide_eq_false_iff_not, Bool.decide_eq_true, Bool.decide_eq_false, decide_true, decide_false, Bool.not_true, Bool.not_false, Bool.and_self, Bool.and_true, Bool.and_false, Bool.true_and, Bool.false_and, Bool.or_true, Bool.or_false, Bool.true_or, Bool.false_or, if_true, if_false, Bool.false_eq_true, ix_11, ix_2, ix_3, ix_4, ix_5, ix_6, ix_64, ix_9999, tc_11, tc_2, tc_3, tc_4, tc_5, tc_6, tc_64, tc_9999, mz_0, mz_1, mz_a, rvs, j_s, j_a, wI_at, Nat.reduceEqDiff, zero_ne_one_n, one_ne_zero_n]
def ydr (Z : ZX) : ZX := zh Z (xdraw Z.1.1)
def yst (Z : ZX) : ZX := zh (ydr Z) (xhap (ydr Z) (Z.1.1.1 1))
def ysi : Nat → ZX → ZX
  | 0, Z => Z
  | k + 1, Z => yst (ysi k Z)
theorem xdraw_0 (X : HX) : (xdraw X).1 0 = X.1 0 := by
  show up X.1 1 (nx (X.1 1)) 0 = X.1 0
  rw [up_at, if_neg (by omega)]
theorem WZ_ydr (hW : WZ Z) : WZ (ydr Z) := WZ_zh hW (WH_up (f := (xdraw Z.1.1).1) hW.1.1 (wf_draw hW.1.1.1) (xdraw_0 _))
theorem WZ_yst (hW : WZ Z) : WZ (yst Z) := WZ_zh (WZ_ydr hW) (WH_hap (WZ_ydr hW) hW.1.1.1.2.1)
theorem WZ_ysi (hW : WZ Z) : ∀ k, WZ (ysi k Z) := by
  intro k
  induction k with
  | zero => exact hW
  | succ k ih => exact WZ_yst ih
theorem c_year (hd : 9 ≤ d) (h1 : CZ w Z) (h3 : WZ Z) : ∃ w1 w2, ee_run ee_B P d 83 [.ref 2] w = some ([.int (Z.1.1.1 1)], w1) ∧ ee_run ee_B P d 104 [.ref 0, .ref 2, .int (Z.1.1.1 1)] w1 = some ([], w2) ∧ CZ w2 (yst Z) ∧ chg hmrg w w2 := by
  obtain ⟨w1, n1, n2, n3⟩ := c_draw (P := P) (d := d) (by omega) hd2_ok h1.1.1
  obtain ⟨r1, r2⟩ := c_head h1 (chg_mono n3 (smrg_h 2)) n2 h3.1.1.2.1
  have r1' : CZ w1 (ydr Z) := r1
  obtain ⟨w2, m1, m2, m3⟩ := c_happen (P := P) (d := d) hd r1' (WZ_ydr h3) h3.1.1.1.2.1
  exact ⟨w1, w2, n1, m1, m2, chg_trans r2 m3⟩
theorem m_year (hd : 11 ≤ d) (hM : MZ w Z) (h3 : WZ Z) : ∃ w1 w2, ee_run ee_B P d 251 [.ref 236] w = some ([], w1) ∧ ee_run ee_B P d 269 [.ref 236, .int (Z.1.1.1 1)] w1 = some ([], w2) ∧ MZ w2 (yst Z) ∧ chk pst w w2 := by
  have hz := MHz_of hM.1 hM.2.2.2.2.2 h3.1.1.2.1
  obtain ⟨w1, n1, n2, n3⟩ := m_anew (P := P) (d := d) (by omega) hz h3.1.1.1.2.1
  obtain ⟨r1, r2⟩ := m_head hM h3 (chk_mono n3 ph_psm) n2
  have r1' : MZ w1 (ydr Z) := r1
  obtain ⟨w2, m1, m2, m3⟩ := m_happens (P := P) (d := d) hd r1' (WZ_ydr h3) h3.1.1.1.2.1
  exact ⟨w1, w2, n1, m1, m2, chk_trans r2 m3⟩
theorem seed_ok {s : Int32} (h : (decide (0 ≤ s) && decide (s ≤ 9999)) = true) : okX (s * 2 + 467) := by
  obtain ⟨n, hn, rfl⟩ := in_nat 9999 (by omega) h
  have e : Int32.ofNat n * 2 + 467 = Int32.ofNat (n * 2 + 467) := by
    rw [Int32.ofNat_add, Int32.ofNat_mul]; rfl
  rw [e]
  unfold okX
  rw [nI_t (by omega)]
  omega
def ybeg (Z : ZX) (s : Int32) : ZX := ((up Z.1.1.1 1 (s * 2 + 467), Z.1.1.2), xkeep Z.1.2.1 Z.1.1, Z.1.2.2) |> fun A => (A, Z.2)
theorem b_years (hd : 12 ≤ d) (hS : Sim w) (s n : Int32) : Both P d 103 268 [.int s, .int n] w := by
  obtain ⟨Z, h1, h2, h3⟩ := hS
  obtain ⟨d, rfl⟩ : ∃ k, d = k + 1 := ⟨d - 1, by omega⟩
  have hd1 : 1 ≤ d := by omega
  have hd3 : 3 ≤ d := by omega
  have hd9 : 9 ≤ d := by omega
  have hd11 : 11 ≤ d := by omega
  cases q : (decide (0 ≤ s) && decide (s ≤ 9999))
  · refine both_q h1 h2 h3 (r := .int (-1)) ?_ ?_
    · rw [rn_103 cz_0]; simp only [r_within hd1, q, be_103, k_0, k_1, k_2, k_40, k_4294967295, k_467, k_9999, nz_1, nz_2, nz_40, nz_467, nz_9999, v_bin, v_call, v_cmp, v_cons, v_get, v_int, v_loc, v_nil, v_not, v_or, v_z, w_exp0, w_exp1, w_if, w_inc, w_put, w_ret, w_seq, w_set, List.getElem?_cons_zero, List.getElem?_cons_succ, List.set_cons_zero, List.set_cons_succ, ee_cmp0, ee_cmp1, ee_cmp2, ee_cmp3, ee_cmp4, ee_cmp5, ee_cmpL0, ee_cmpL1, ee_cmpL2, ee_cmpL3, ee_cmpL4, ee_cmpL5, ee_tru_eb, decide_eq_true_eq, ib_i, ie_b, ie_f, ie_t, ib_l, fin_i, fin_l, fin_v, fin_z, fin_a, fin_n, ee_b_0, ee_fld0, ee_fld1, ee_fld2, ee_fld3, bi_0, bi_1, bi_2, bi_3, bi_4, bi_5, bi_6, bi_7, bi_8, bi_9, bi_10, bl_20, bl_21, bl_22, bl_23, bl_24, bl_25, bl_26, bl_48, bl_49, un_0, un_1, un_2, un_3, if_true, if_false, ite_true, ite_false, Bool.false_eq_true, Bool.not_eq_false, decide_not, Bool.not_not, reduceCtorEq, st_i, st_l, st_r, st_n, ee_noL, ee_noL.eq_1, List.length_cons, List.length_nil, Nat.reduceAdd, Nat.reduceLT, Nat.zero_add, and_true, true_and, and_self, fin_ite, pu_0, pu_1, pu_3, sto_0, el_0, Bool.not_eq_true, decide_eq_false_iff_not, Bool.decide_eq_true, Bool.decide_eq_false, decide_true, decide_false, Bool.not_true, Bool.not_false, Bool.and_self, Bool.and_true, Bool.and_false, Bool.true_and, Bool.false_and, Bool.or_true, Bool.or_false, Bool.true_or, Bool.false_or, if_true, if_false, Bool.false_eq_true]
    · rw [rn_268 mz_0]; simp only [r_isIn hd1, q, be_268, k_0, k_1, k_2, k_40, k_4294967295, k_467, k_5, k_6, k_9999, nz_1, nz_2, nz_40, nz_467, nz_5, nz_6, nz_9999, v_bin, v_call, v_cmp, v_cons, v_get, v_idx, v_int, v_loc, v_nil, v_not, v_or, v_z, w_exp0, w_exp1, w_if, w_inc, w_ret, w_seq, w_set, w_sto, List.getElem?_cons_zero, List.getElem?_cons_succ, List.set_cons_zero, List.set_cons_succ, ee_cmp0, ee_cmp1, ee_cmp2, ee_cmp3, ee_cmp4, ee_cmp5, ee_cmpL0, ee_cmpL1, ee_cmpL2, ee_cmpL3, ee_cmpL4, ee_cmpL5, ee_tru_eb, decide_eq_true_eq, ib_i, ie_b, ie_f, ie_t, ib_l, fin_i, fin_l, fin_v, fin_z, fin_a, fin_n, ee_b_0, ee_fld0, ee_fld1, ee_fld2, ee_fld3, bi_0, bi_1, bi_2, bi_3, bi_4, bi_5, bi_6, bi_7, bi_8, bi_9, bi_10, bl_20, bl_21, bl_22, bl_23, bl_24, bl_25, bl_26, bl_48, bl_49, un_0, un_1, un_2, un_3, if_true, if_false, ite_true, ite_false, Bool.false_eq_true, Bool.not_eq_false, decide_not, Bool.not_not, reduceCtorEq, st_i, st_l, st_r, st_n, ee_noL, ee_noL.eq_1, List.length_cons, List.length_nil, Nat.reduceAdd, Nat.reduceLT, Nat.zero_add, and_true, true_and, and_self, fin_ite, pu_0, pu_1, pu_3, sto_0, el_0, Bool.not_eq_true, decide_eq_false_iff_not, Bool.decide_eq_true, Bool.decide_eq_false, decide_true, decide_false, Bool.not_true, Bool.not_false, Bool.and_self, Bool.and_true, Bool.and_false, Bool.true_and, Bool.false_and, Bool.or_true, Bool.or_false, Bool.true_or, Bool.false_or, if_true, if_false, Bool.false_eq_true, ix_0, ix_1, ix_2, ix_40, ix_467, ix_5, ix_6, ix_9999, tc_0, tc_1, tc_2, tc_40, tc_467, tc_5, tc_6, tc_9999, mz_0, mz_1, mz_a, rvs, j_s, j_a, wI_at, Nat.reduceEqDiff, zero_ne_one_n, one_ne_zero_n]
  · cases q2 : (decide (1 ≤ n) && decide (n ≤ 40))
    · refine both_q h1 h2 h3 (r := .int (-1)) ?_ ?_
      · rw [rn_103 cz_0]; simp only [r_within hd1, q, q2, be_103, k_0, k_1, k_2, k_40, k_4294967295, k_467, k_9999, nz_1, nz_2, nz_40, nz_467, nz_9999, v_bin, v_call, v_cmp, v_cons, v_get, v_int, v_loc, v_nil, v_not, v_or, v_z, w_exp0, w_exp1, w_if, w_inc, w_put, w_ret, w_seq, w_set, List.getElem?_cons_zero, List.getElem?_cons_succ, List.set_cons_zero, List.set_cons_succ, ee_cmp0, ee_cmp1, ee_cmp2, ee_cmp3, ee_cmp4, ee_cmp5, ee_cmpL0, ee_cmpL1, ee_cmpL2, ee_cmpL3, ee_cmpL4, ee_cmpL5, ee_tru_eb, decide_eq_true_eq, ib_i, ie_b, ie_f, ie_t, ib_l, fin_i, fin_l, fin_v, fin_z, fin_a, fin_n, ee_b_0, ee_fld0, ee_fld1, ee_fld2, ee_fld3, bi_0, bi_1, bi_2, bi_3, bi_4, bi_5, bi_6, bi_7, bi_8, bi_9, bi_10, bl_20, bl_21, bl_22, bl_23, bl_24, bl_25, bl_26, bl_48, bl_49, un_0, un_1, un_2, un_3, if_true, if_false, ite_true, ite_false, Bool.false_eq_true, Bool.not_eq_false, decide_not, Bool.not_not, reduceCtorEq, st_i, st_l, st_r, st_n, ee_noL, ee_noL.eq_1, List.length_cons, List.length_nil, Nat.reduceAdd, Nat.reduceLT, Nat.zero_add, and_true, true_and, and_self, fin_ite, pu_0, pu_1, pu_3, sto_0, el_0, Bool.not_eq_true, decide_eq_false_iff_not, Bool.decide_eq_true, Bool.decide_eq_false, decide_true, decide_false, Bool.not_true, Bool.not_false, Bool.and_self, Bool.and_true, Bool.and_false, Bool.true_and, Bool.false_and, Bool.or_true, Bool.or_false, Bool.true_or, Bool.false_or, if_true, if_false, Bool.false_eq_true]
      · rw [rn_268 mz_0]; simp only [r_isIn hd1, q, q2, be_268, k_0, k_1, k_2, k_40, k_4294967295, k_467, k_5, k_6, k_9999, nz_1, nz_2, nz_40, nz_467, nz_5, nz_6, nz_9999, v_bin, v_call, v_cmp, v_cons, v_get, v_idx, v_int, v_loc, v_nil, v_not, v_or, v_z, w_exp0, w_exp1, w_if, w_inc, w_ret, w_seq, w_set, w_sto, List.getElem?_cons_zero, List.getElem?_cons_succ, List.set_cons_zero, List.set_cons_succ, ee_cmp0, ee_cmp1, ee_cmp2, ee_cmp3, ee_cmp4, ee_cmp5, ee_cmpL0, ee_cmpL1, ee_cmpL2, ee_cmpL3, ee_cmpL4, ee_cmpL5, ee_tru_eb, decide_eq_true_eq, ib_i, ie_b, ie_f, ie_t, ib_l, fin_i, fin_l, fin_v, fin_z, fin_a, fin_n, ee_b_0, ee_fld0, ee_fld1, ee_fld2, ee_fld3, bi_0, bi_1, bi_2, bi_3, bi_4, bi_5, bi_6, bi_7, bi_8, bi_9, bi_10, bl_20, bl_21, bl_22, bl_23, bl_24, bl_25, bl_26, bl_48, bl_49, un_0, un_1, un_2, un_3, if_true, if_false, ite_true, ite_false, Bool.false_eq_true, Bool.not_eq_false, decide_not, Bool.not_not, reduceCtorEq, st_i, st_l, st_r, st_n, ee_noL, ee_noL.eq_1, List.length_cons, List.length_nil, Nat.reduceAdd, Nat.reduceLT, Nat.zero_add, and_true, true_and, and_self, fin_ite, pu_0, pu_1, pu_3, sto_0, el_0, Bool.not_eq_true, decide_eq_false_iff_not, Bool.decide_eq_true, Bool.decide_eq_false, decide_true, decide_false, Bool.not_true, Bool.not_false, Bool.and_self, Bool.and_true, Bool.and_false, Bool.true_and, Bool.false_and, Bool.or_true, Bool.or_false, Bool.true_or, Bool.false_or, if_true, if_false, Bool.false_eq_true, ix_0, ix_1, ix_2, ix_40, ix_467, ix_5, ix_6, ix_9999, tc_0, tc_1, tc_2, tc_40, tc_467, tc_5, tc_6, tc_9999, mz_0, mz_1, mz_a, rvs, j_s, j_a, wI_at, Nat.reduceEqDiff, zero_ne_one_n, one_ne_zero_n]
    · have hn := (in_iff n 1 40).1 q2
      rw [show (1 : Int32).toInt = 1 from rfl, show (40 : Int32).toInt = 40 from rfl] at hn
      obtain ⟨N, k1, k2, k3⟩ := j_of (s := n) (by omega)
      subst k2
      have hX : WH (up Z.1.1.1 1 (s * 2 + 467), Z.1.1.2) := WH_up h3.1.1 (wf_up h3.1.1.1 1 (seed_ok q)) (by rw [up_at, if_neg (by omega)])
      have hW0 : WZ (ybeg Z s) := WZ_step h3 hX
      refine both_of h2 h3 (WZ_ysi hW0 N) (r := .int ((ysi N (ybeg Z s)).1.1.1 0)) ?_ ?_
      · obtain ⟨w1, n1, n2, n3⟩ := c_keep (P := P) hd3 st5 hd2_ok (by omega) h1.1.2.2.1 h1.1.1 h1.1.2.1
        have f : ∀ c, c < 5 ∨ 97 ≤ c → srg 5 c = false := fun c h => by unfold srg; rw [rg_f]; omega
        have hx := CH_chg h1.1.1 n3 (f _ (by omega)) (f _ (by omega)) (f _ (by omega))
        have hx2 := CH_put hx 8 (by omega) (s * 2 + 467)
        obtain ⟨s1, s2⟩ := c_step h1 hX.2.1 n2 n3 hx2 (chg_I (hrg_0 2) (chg_refl _ _))
        have s1' : CZ (ee_wI w1 2 8 (s * 2 + 467)) (ybeg Z s) := s1
        obtain ⟨r, hr, hq⟩ := wh_n (f := ee_turn (ee_ev es_sh es_rf (ee_run ee_B P d) lx_103_1) (ee_evS es_sh es_rf (ee_run ee_B P d) lb_103_1))
          (I := fun m y => ∃ k, m = N - k ∧ k ≤ N ∧ y.1 = [some (.ref 0), some (.int s), some (.int (Int32.ofNat N)), some (.int (Int32.ofNat k))] ∧ CZ y.2 (ysi k (ybeg Z s)) ∧ chg hmrg w y.2)
          (Q := fun r => ∃ env' w', r = .inl (env', w') ∧ (∃ q, env' = [some (.ref 0), some (.int s), some (.int (Int32.ofNat N)), some (.int q)]) ∧ CZ w' (ysi N (ybeg Z s)) ∧ chg hmrg w w')
          (by
            rintro m ⟨env, y⟩ ⟨k, rfl, hk, he, hz, hcc⟩
            dsimp only at he hz hcc
            subst he
            have h9 : (Int32.ofNat k < Int32.ofNat N) ↔ k < N := j_lt (by omega) (by omega)
            by_cases g : k < N
            · left
              obtain ⟨w2, w3, m1, m2, m3, m4⟩ := c_year (P := P) hd9 hz (WZ_ysi hW0 k)
              have m3' : CZ w3 (ysi (k + 1) (ybeg Z s)) := m3
              refine ⟨([some (.ref 0), some (.int s), some (.int (Int32.ofNat N)), some (.int (Int32.ofNat (k + 1)))], w3), N - (k + 1), ?_, by omega, k + 1, rfl, by omega, rfl, m3', chg_trans hcc m4⟩
              simp only [h9, g, m1, m2, j_s, j_a, cz_0, cz_r0, al_1.1, al_1.2.1, rvs, lx_103_1, lb_103_1, ee_turn, k_0, k_1, k_2, k_40, k_4294967295, k_467, k_9999, nz_1, nz_2, nz_40, nz_467, nz_9999, v_bin, v_call, v_cmp, v_cons, v_get, v_int, v_loc, v_nil, v_not, v_or, v_z, w_exp0, w_exp1, w_if, w_inc, w_put, w_ret, w_seq, w_set, List.getElem?_cons_zero, List.getElem?_cons_succ, List.set_cons_zero, List.set_cons_succ, ee_cmp0, ee_cmp1, ee_cmp2, ee_cmp3, ee_cmp4, ee_cmp5, ee_cmpL0, ee_cmpL1, ee_cmpL2, ee_cmpL3, ee_cmpL4, ee_cmpL5, ee_tru_eb, decide_eq_true_eq, ib_i, ie_b, ie_f, ie_t, ib_l, fin_i, fin_l, fin_v, fin_z, fin_a, fin_n, ee_b_0, ee_fld0, ee_fld1, ee_fld2, ee_fld3, bi_0, bi_1, bi_2, bi_3, bi_4, bi_5, bi_6, bi_7, bi_8, bi_9, bi_10, bl_20, bl_21, bl_22, bl_23, bl_24, bl_25, bl_26, bl_48, bl_49, un_0, un_1, un_2, un_3, if_true, if_false, ite_true, ite_false, Bool.false_eq_true, Bool.not_eq_false, decide_not, Bool.not_not, reduceCtorEq, st_i, st_l, st_r, st_n, ee_noL, ee_noL.eq_1, List.length_cons, List.length_nil, Nat.reduceAdd, Nat.reduceLT, Nat.zero_add, and_true, true_and, and_self, fin_ite, pu_0, pu_1, pu_3, sto_0, el_0, Bool.not_eq_true, decide_eq_false_iff_not, Bool.decide_eq_true, Bool.decide_eq_false, decide_true, decide_false, Bool.not_true, Bool.not_false, Bool.and_self, Bool.and_true, Bool.and_false, Bool.true_and, Bool.false_and, Bool.or_true, Bool.or_false, Bool.true_or, Bool.false_or, if_true, if_false, Bool.false_eq_true]
            · right
              have hkn : k = N := by omega
              subst hkn
              refine ⟨.inl ([some (.ref 0), some (.int s), some (.int (Int32.ofNat k)), some (.int (Int32.ofNat k))], y), ?_, _, y, rfl, ⟨_, rfl⟩, hz, hcc⟩
              simp only [h9, g, lx_103_1, lb_103_1, ee_turn, k_0, k_1, k_2, k_40, k_4294967295, k_467, k_9999, nz_1, nz_2, nz_40, nz_467, nz_9999, v_bin, v_call, v_cmp, v_cons, v_get, v_int, v_loc, v_nil, v_not, v_or, v_z, w_exp0, w_exp1, w_if, w_inc, w_put, w_ret, w_seq, w_set, List.getElem?_cons_zero, List.getElem?_cons_succ, List.set_cons_zero, List.set_cons_succ, ee_cmp0, ee_cmp1, ee_cmp2, ee_cmp3, ee_cmp4, ee_cmp5, ee_cmpL0, ee_cmpL1, ee_cmpL2, ee_cmpL3, ee_cmpL4, ee_cmpL5, ee_tru_eb, decide_eq_true_eq, ib_i, ie_b, ie_f, ie_t, ib_l, fin_i, fin_l, fin_v, fin_z, fin_a, fin_n, ee_b_0, ee_fld0, ee_fld1, ee_fld2, ee_fld3, bi_0, bi_1, bi_2, bi_3, bi_4, bi_5, bi_6, bi_7, bi_8, bi_9, bi_10, bl_20, bl_21, bl_22, bl_23, bl_24, bl_25, bl_26, bl_48, bl_49, un_0, un_1, un_2, un_3, if_true, if_false, ite_true, ite_false, Bool.false_eq_true, Bool.not_eq_false, decide_not, Bool.not_not, reduceCtorEq, st_i, st_l, st_r, st_n, ee_noL, ee_noL.eq_1, List.length_cons, List.length_nil, Nat.reduceAdd, Nat.reduceLT, Nat.zero_add, and_true, true_and, and_self, fin_ite, pu_0, pu_1, pu_3, sto_0, el_0, Bool.not_eq_true, decide_eq_false_iff_not, Bool.decide_eq_true, Bool.decide_eq_false, decide_true, decide_false, Bool.not_true, Bool.not_false, Bool.and_self, Bool.and_true, Bool.and_false, Bool.true_and, Bool.false_and, Bool.or_true, Bool.or_false, Bool.true_or, Bool.false_or, if_true, if_false, Bool.false_eq_true])
          (N - 0) ([some (.ref 0), some (.int s), some (.int (Int32.ofNat N)), some (.int (Int32.ofNat 0))], ee_wI w1 2 8 (s * 2 + 467)) ⟨0, rfl, Nat.zero_le _, rfl, s1', s2⟩
        rw [k_0] at hr
        obtain ⟨env', w', rfl, ⟨q5, rfl⟩, q3, q4⟩ := hq
        have e7 : w'.1 2 7 = (ysi N (ybeg Z s)).1.1.1 0 := q3.1.1.1.1
        refine ⟨w', ?_, q3, chg_mono q4 hm_lo⟩
        rw [rn_103 cz_0]
        simp only [r_within hd1, q, q2, n1, w_while, hr, e7, cz_0, cz_r0, al_1.1, al_1.2.1, al_1.2.2.1, hd2_ok.1, rvs, be_103, k_0, k_1, k_2, k_40, k_4294967295, k_467, k_9999, nz_1, nz_2, nz_40, nz_467, nz_9999, v_bin, v_call, v_cmp, v_cons, v_get, v_int, v_loc, v_nil, v_not, v_or, v_z, w_exp0, w_exp1, w_if, w_inc, w_put, w_ret, w_seq, w_set, List.getElem?_cons_zero, List.getElem?_cons_succ, List.set_cons_zero, List.set_cons_succ, ee_cmp0, ee_cmp1, ee_cmp2, ee_cmp3, ee_cmp4, ee_cmp5, ee_cmpL0, ee_cmpL1, ee_cmpL2, ee_cmpL3, ee_cmpL4, ee_cmpL5, ee_tru_eb, decide_eq_true_eq, ib_i, ie_b, ie_f, ie_t, ib_l, fin_i, fin_l, fin_v, fin_z, fin_a, fin_n, ee_b_0, ee_fld0, ee_fld1, ee_fld2, ee_fld3, bi_0, bi_1, bi_2, bi_3, bi_4, bi_5, bi_6, bi_7, bi_8, bi_9, bi_10, bl_20, bl_21, bl_22, bl_23, bl_24, bl_25, bl_26, bl_48, bl_49, un_0, un_1, un_2, un_3, if_true, if_false, ite_true, ite_false, Bool.false_eq_true, Bool.not_eq_false, decide_not, Bool.not_not, reduceCtorEq, st_i, st_l, st_r, st_n, ee_noL, ee_noL.eq_1, List.length_cons, List.length_nil, Nat.reduceAdd, Nat.reduceLT, Nat.zero_add, and_true, true_and, and_self, fin_ite, pu_0, pu_1, pu_3, sto_0, el_0, Bool.not_eq_true, decide_eq_false_iff_not, Bool.decide_eq_true, Bool.decide_eq_false, decide_true, decide_false, Bool.not_true, Bool.not_false, Bool.and_self, Bool.and_true, Bool.and_false, Bool.true_and, Bool.false_and, Bool.or_true, Bool.or_false, Bool.true_or, Bool.false_or, if_true, if_false, Bool.false_eq_true]
      · intro w1 hM
        obtain ⟨w2, n1, n2, n3⟩ := m_keep (P := P) hd1 hM.1 h3.1
        have hz : w2.1 236 23 = 1 := (n3.1 _ _ (by unfold pkp; omega)).trans hM.2.2.2.2.2
        have hp := MHz_put (MHz_of n2 hz h3.1.1.2.1) 1 (by omega) (by omega) (s * 2 + 467)
        rw [show 5 + 1 = 6 from rfl] at hp
        obtain ⟨s1, s2⟩ := m_step (p := pst) hM h3 n2 n3 hp (chk_I (Or.inl (Or.inl ⟨rfl, by omega⟩)) (chk_refl _ _))
        have s1' : MZ (ee_wI w2 237 6 (s * 2 + 467)) (ybeg Z s) := s1
        obtain ⟨r, hr, hq⟩ := wh_n (f := ee_turn (ee_ev es_sh es_rf (ee_run ee_B P d) lx_268_1) (ee_evS es_sh es_rf (ee_run ee_B P d) lb_268_1))
          (I := fun m y => ∃ k v, m = N - k ∧ k ≤ N ∧ y.1 = [some (.ref 236), some (.int s), some (.int (Int32.ofNat N)), some (.int (Int32.ofNat k)), v] ∧ MZ y.2 (ysi k (ybeg Z s)) ∧ chk pst w1 y.2)
          (Q := fun r => ∃ env' w', r = .inl (env', w') ∧ (∃ q v, env' = [some (.ref 236), some (.int s), some (.int (Int32.ofNat N)), some (.int q), v]) ∧ MZ w' (ysi N (ybeg Z s)) ∧ chk pst w1 w')
          (by
            rintro m ⟨env, y⟩ ⟨k, v, rfl, hk, he, hz, hcc⟩
            dsimp only at he hz hcc
            subst he
            have h9 : (Int32.ofNat k < Int32.ofNat N) ↔ k < N := j_lt (by omega) (by omega)
            have e6 : y.1 237 6 = (ysi k (ybeg Z s)).1.1.1 1 := hz.1.2.1.1 1 (by omega) (by omega)
            by_cases g : k < N
            · left
              obtain ⟨w2, w3, m1, m2, m3, m4⟩ := m_year (P := P) hd11 hz (WZ_ysi hW0 k)
              have m3' : MZ w3 (ysi (k + 1) (ybeg Z s)) := m3
              refine ⟨([some (.ref 236), some (.int s), some (.int (Int32.ofNat N)), some (.int (Int32.ofNat (k + 1))), some (.int ((ysi k (ybeg Z s)).1.1.1 1))], w3), N - (k + 1), ?_, by omega, k + 1, _, rfl, by omega, rfl, m3', chk_trans hcc m4⟩
              simp only [h9, g, e6, m1, m2, lx_268_1, lb_268_1, ee_turn, k_0, k_1, k_2, k_40, k_4294967295, k_467, k_5, k_6, k_9999, nz_1, nz_2, nz_40, nz_467, nz_5, nz_6, nz_9999, v_bin, v_call, v_cmp, v_cons, v_get, v_idx, v_int, v_loc, v_nil, v_not, v_or, v_z, w_exp0, w_exp1, w_if, w_inc, w_ret, w_seq, w_set, w_sto, List.getElem?_cons_zero, List.getElem?_cons_succ, List.set_cons_zero, List.set_cons_succ, ee_cmp0, ee_cmp1, ee_cmp2, ee_cmp3, ee_cmp4, ee_cmp5, ee_cmpL0, ee_cmpL1, ee_cmpL2, ee_cmpL3, ee_cmpL4, ee_cmpL5, ee_tru_eb, decide_eq_true_eq, ib_i, ie_b, ie_f, ie_t, ib_l, fin_i, fin_l, fin_v, fin_z, fin_a, fin_n, ee_b_0, ee_fld0, ee_fld1, ee_fld2, ee_fld3, bi_0, bi_1, bi_2, bi_3, bi_4, bi_5, bi_6, bi_7, bi_8, bi_9, bi_10, bl_20, bl_21, bl_22, bl_23, bl_24, bl_25, bl_26, bl_48, bl_49, un_0, un_1, un_2, un_3, if_true, if_false, ite_true, ite_false, Bool.false_eq_true, Bool.not_eq_false, decide_not, Bool.not_not, reduceCtorEq, st_i, st_l, st_r, st_n, ee_noL, ee_noL.eq_1, List.length_cons, List.length_nil, Nat.reduceAdd, Nat.reduceLT, Nat.zero_add, and_true, true_and, and_self, fin_ite, pu_0, pu_1, pu_3, sto_0, el_0, Bool.not_eq_true, decide_eq_false_iff_not, Bool.decide_eq_true, Bool.decide_eq_false, decide_true, decide_false, Bool.not_true, Bool.not_false, Bool.and_self, Bool.and_true, Bool.and_false, Bool.true_and, Bool.false_and, Bool.or_true, Bool.or_false, Bool.true_or, Bool.false_or, if_true, if_false, Bool.false_eq_true, tc_0, ix_0, tc_1, ix_1, tc_2, ix_2, tc_40, ix_40, tc_467, ix_467, tc_5, ix_5, tc_6, ix_6, tc_9999, ix_9999, mz_0, mz_1, mz_a, rvs, j_s, j_a, wI_at, Nat.reduceEqDiff, zero_ne_one_n, one_ne_zero_n]
            · right
              have hkn : k = N := by omega
              subst hkn
              refine ⟨.inl ([some (.ref 236), some (.int s), some (.int (Int32.ofNat k)), some (.int (Int32.ofNat k)), v], y), ?_, _, y, rfl, ⟨_, _, rfl⟩, hz, hcc⟩
              simp only [h9, g, lx_268_1, lb_268_1, ee_turn, k_0, k_1, k_2, k_40, k_4294967295, k_467, k_5, k_6, k_9999, nz_1, nz_2, nz_40, nz_467, nz_5, nz_6, nz_9999, v_bin, v_call, v_cmp, v_cons, v_get, v_idx, v_int, v_loc, v_nil, v_not, v_or, v_z, w_exp0, w_exp1, w_if, w_inc, w_ret, w_seq, w_set, w_sto, List.getElem?_cons_zero, List.getElem?_cons_succ, List.set_cons_zero, List.set_cons_succ, ee_cmp0, ee_cmp1, ee_cmp2, ee_cmp3, ee_cmp4, ee_cmp5, ee_cmpL0, ee_cmpL1, ee_cmpL2, ee_cmpL3, ee_cmpL4, ee_cmpL5, ee_tru_eb, decide_eq_true_eq, ib_i, ie_b, ie_f, ie_t, ib_l, fin_i, fin_l, fin_v, fin_z, fin_a, fin_n, ee_b_0, ee_fld0, ee_fld1, ee_fld2, ee_fld3, bi_0, bi_1, bi_2, bi_3, bi_4, bi_5, bi_6, bi_7, bi_8, bi_9, bi_10, bl_20, bl_21, bl_22, bl_23, bl_24, bl_25, bl_26, bl_48, bl_49, un_0, un_1, un_2, un_3, if_true, if_false, ite_true, ite_false, Bool.false_eq_true, Bool.not_eq_false, decide_not, Bool.not_not, reduceCtorEq, st_i, st_l, st_r, st_n, ee_noL, ee_noL.eq_1, List.length_cons, List.length_nil, Nat.reduceAdd, Nat.reduceLT, Nat.zero_add, and_true, true_and, and_self, fin_ite, pu_0, pu_1, pu_3, sto_0, el_0, Bool.not_eq_true, decide_eq_false_iff_not, Bool.decide_eq_true, Bool.decide_eq_false, decide_true, decide_false, Bool.not_true, Bool.not_false, Bool.and_self, Bool.and_true, Bool.and_false, Bool.true_and, Bool.false_and, Bool.or_true, Bool.or_false, Bool.true_or, Bool.false_or, if_true, if_false, Bool.false_eq_true, tc_0, ix_0, tc_1, ix_1, tc_2, ix_2, tc_40, ix_40, tc_467, ix_467, tc_5, ix_5, tc_6, ix_6, tc_9999, ix_9999, mz_0, mz_1, mz_a, rvs, j_s, j_a, wI_at, Nat.reduceEqDiff, zero_ne_one_n, one_ne_zero_n])
          (N - 0) ([some (.ref 236), some (.int s), some (.int (Int32.ofNat N)), some (.int (Int32.ofNat 0)), none], ee_wI w2 237 6 (s * 2 + 467)) ⟨0, _, rfl, Nat.zero_le _, rfl, s1', s2⟩
        rw [k_0] at hr
        obtain ⟨env', w', rfl, ⟨q5, v, rfl⟩, q3, q4⟩ := hq
        have e5 : w'.1 237 5 = (ysi N (ybeg Z s)).1.1.1 0 := q3.1.2.1.1 0 (by omega) (by omega)
        refine ⟨w', ?_, q3, chk_mono q4 pst_hi⟩
        rw [rn_268 mz_0]
        simp only [r_isIn hd1, q, q2, n1, w_while, hr, e5, be_268, k_0, k_1, k_2, k_40, k_4294967295, k_467, k_5, k_6, k_9999, nz_1, nz_2, nz_40, nz_467, nz_5, nz_6, nz_9999, v_bin, v_call, v_cmp, v_cons, v_get, v_idx, v_int, v_loc, v_nil, v_not, v_or, v_z, w_exp0, w_exp1, w_if, w_inc, w_ret, w_seq, w_set, w_sto, List.getElem?_cons_zero, List.getElem?_cons_succ, List.set_cons_zero, List.set_cons_succ, ee_cmp0, ee_cmp1, ee_cmp2, ee_cmp3, ee_cmp4, ee_cmp5, ee_cmpL0, ee_cmpL1, ee_cmpL2, ee_cmpL3, ee_cmpL4, ee_cmpL5, ee_tru_eb, decide_eq_true_eq, ib_i, ie_b, ie_f, ie_t, ib_l, fin_i, fin_l, fin_v, fin_z, fin_a, fin_n, ee_b_0, ee_fld0, ee_fld1, ee_fld2, ee_fld3, bi_0, bi_1, bi_2, bi_3, bi_4, bi_5, bi_6, bi_7, bi_8, bi_9, bi_10, bl_20, bl_21, bl_22, bl_23, bl_24, bl_25, bl_26, bl_48, bl_49, un_0, un_1, un_2, un_3, if_true, if_false, ite_true, ite_false, Bool.false_eq_true, Bool.not_eq_false, decide_not, Bool.not_not, reduceCtorEq, st_i, st_l, st_r, st_n, ee_noL, ee_noL.eq_1, List.length_cons, List.length_nil, Nat.reduceAdd, Nat.reduceLT, Nat.zero_add, and_true, true_and, and_self, fin_ite, pu_0, pu_1, pu_3, sto_0, el_0, Bool.not_eq_true, decide_eq_false_iff_not, Bool.decide_eq_true, Bool.decide_eq_false, decide_true, decide_false, Bool.not_true, Bool.not_false, Bool.and_self, Bool.and_true, Bool.and_false, Bool.true_and, Bool.false_and, Bool.or_true, Bool.or_false, Bool.true_or, Bool.false_or, if_true, if_false, Bool.false_eq_true, ix_0, ix_1, ix_2, ix_40, ix_467, ix_5, ix_6, ix_9999, tc_0, tc_1, tc_2, tc_40, tc_467, tc_5, tc_6, tc_9999, mz_0, mz_1, mz_a, rvs, j_s, j_a, wI_at, Nat.reduceEqDiff, zero_ne_one_n, one_ne_zero_n]
end BY3
