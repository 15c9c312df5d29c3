/-! whose, whole -/
section BN2
variable {P : Nat → Nat → List Value → ee_W → Option (List Value × ee_W)} {d : Nat} {w : ee_W} {Z : ZX}
theorem b_whose (hd : 11 ≤ d) (hS : Sim w) : Both P d 174 340 [] w := by
  obtain ⟨Z, h1, h2, h3⟩ := hS
  obtain ⟨d, rfl⟩ : ∃ k, d = k + 1 := ⟨d - 1, by omega⟩
  have hd1 : 1 ≤ d := by omega
  have hd2 : 2 ≤ d := by omega
  have hd9 : 9 ≤ d := by omega
  obtain ⟨n, n1, n2, n3, -⟩ := nT_of h3.1
  have f : ∀ c, c < 222 → smrg 222 c = false := fun c h => smrg_f (by omega) (by omega)
  have c4 : w.1 1 4 = Int32.ofNat n := h1.1.2.2.2.1.2.2.1.trans n2
  refine both_of h2 h3 h3 (r := .int (wb Z n)) ?_ ?_
  · obtain ⟨w1, m1, m2, m3⟩ := c_copyFrom (P := P) hd1 hd_222 hd2_ok (by omega) h1.1.1 h3.1.1.2.1
    rw [← xe_self Z.1.1] at m2
    obtain ⟨r, hr, hq⟩ := wh_n (f := ee_turn (ee_ev es_sh es_rf (ee_run ee_B P d) lx_174_1) (ee_evS es_sh es_rf (ee_run ee_B P d) lb_174_1))
      (I := fun m y => ∃ k e, m = n - k ∧ k ≤ n ∧ y.1 = [some (.ref 0), some (.int (wb Z k)), some (.int (Int32.ofNat k))] ∧ CH y.2 222 (xe Z.1.1 e) ∧ chg (smrg 222) w y.2)
      (Q := fun r => ∃ w' q, r = .inl ([some (.ref 0), some (.int (wb Z n)), some (.int q)], w') ∧ chg (smrg 222) w w')
      (by
        rintro m ⟨env, y⟩ ⟨k, e, rfl, hk, he, hz, hcc⟩
        dsimp only at he hz hcc
        subst he
        have h9 : (Int32.ofNat k < Int32.ofNat n) ↔ k < n := j_lt (by omega) (by omega)
        have e4 : y.1 1 4 = Int32.ofNat n := (hcc.1 _ _ (f _ (by omega))).trans c4
        by_cases g : k < n
        · left
          have h8 : Int32.ofNat k < 4 := (j_lt (b := 4) (by omega) (by omega)).2 (by omega)
          have tx := c_textIs (P := P) (w := y) hd2 n1 e4 g
          obtain ⟨w2, e1, s1, s2, s3⟩ := c_saysAll (P := P) (t := k) hd9 h1 h3 (by omega) (by omega) hcc hz
          have ew : wb Z (k + 1) = if sa Z k Z.1.2.2.2.2.2.1 = true then wb Z k ||| (1 <<< (Int32.ofNat k &&& 31)) else wb Z k := rfl
          refine ⟨([some (.ref 0), some (.int (wb Z (k + 1))), some (.int (Int32.ofNat (k + 1)))], w2), n - (k + 1), ?_, by omega, k + 1, e1, rfl, by omega, rfl, s3, s2⟩
          rw [ew]
          cases b : sa Z k Z.1.2.2.2.2.2.1 <;> rw [b] at s1 <;> simp only [h9, h8, g, e4, tx, s1, j_s, j_a, cz_0, cz_r0, al_1.1, rvs, lx_174_1, lb_174_1, ee_turn, k_0, k_1, k_4, nz_1, nz_4, v_and, v_bin, v_call, v_cmp, v_cons, v_get, v_int, v_loc, v_nil, v_z, w_exp0, w_exp1, w_if, w_inc, w_ret, w_seq, w_set, w_skip, List.getElem?_cons_zero, List.getElem?_cons_succ, List.set_cons_zero, List.set_cons_succ, ee_cmp0, ee_cmp1, ee_cmp2, ee_cmp3, ee_cmp4, ee_cmp5, ee_cmpL0, ee_cmpL1, ee_cmpL2, ee_cmpL3, ee_cmpL4, ee_cmpL5, ee_tru_eb, decide_eq_true_eq, ib_i, ie_b, ie_f, ie_t, ib_l, fin_i, fin_l, fin_v, fin_z, fin_a, fin_n, ee_b_0, ee_fld0, ee_fld1, ee_fld2, ee_fld3, bi_0, bi_1, bi_2, bi_3, bi_4, bi_5, bi_6, bi_7, bi_8, bi_9, bi_10, bl_20, bl_21, bl_22, bl_23, bl_24, bl_25, bl_26, bl_48, bl_49, un_0, un_1, un_2, un_3, if_true, if_false, ite_true, ite_false, Bool.false_eq_true, Bool.not_eq_false, decide_not, Bool.not_not, reduceCtorEq, st_i, st_l, st_r, st_n, ee_noL, ee_noL.eq_1, List.length_cons, List.length_nil, Nat.reduceAdd, Nat.reduceLT, Nat.zero_add, and_true, true_and, and_self, fin_ite, pu_0, pu_1, pu_3, sto_0, el_0, Bool.not_eq_true, decide_eq_false_iff_not, Bool.decide_eq_true, Bool.decide_eq_false, decide_true, decide_false, Bool.not_true, Bool.not_false, Bool.and_self, Bool.and_true, Bool.and_false, Bool.true_and, Bool.false_and, Bool.or_true, Bool.or_false, Bool.true_or, Bool.false_or, if_true, if_false, Bool.false_eq_true]
        · right
          have hkn : k = n := by omega
          subst hkn
          refine ⟨.inl ([some (.ref 0), some (.int (wb Z k)), some (.int (Int32.ofNat k))], y), ?_, y, _, rfl, hcc⟩
          simp only [h9, g, e4, cz_0, cz_r0, al_1.1, rvs, lx_174_1, lb_174_1, ee_turn, k_0, k_1, k_4, nz_1, nz_4, v_and, v_bin, v_call, v_cmp, v_cons, v_get, v_int, v_loc, v_nil, v_z, w_exp0, w_exp1, w_if, w_inc, w_ret, w_seq, w_set, w_skip, List.getElem?_cons_zero, List.getElem?_cons_succ, List.set_cons_zero, List.set_cons_succ, ee_cmp0, ee_cmp1, ee_cmp2, ee_cmp3, ee_cmp4, ee_cmp5, ee_cmpL0, ee_cmpL1, ee_cmpL2, ee_cmpL3, ee_cmpL4, ee_cmpL5, ee_tru_eb, decide_eq_true_eq, ib_i, ie_b, ie_f, ie_t, ib_l, fin_i, fin_l, fin_v, fin_z, fin_a, fin_n, ee_b_0, ee_fld0, ee_fld1, ee_fld2, ee_fld3, bi_0, bi_1, bi_2, bi_3, bi_4, bi_5, bi_6, bi_7, bi_8, bi_9, bi_10, bl_20, bl_21, bl_22, bl_23, bl_24, bl_25, bl_26, bl_48, bl_49, un_0, un_1, un_2, un_3, if_true, if_false, ite_true, ite_false, Bool.false_eq_true, Bool.not_eq_false, decide_not, Bool.not_not, reduceCtorEq, st_i, st_l, st_r, st_n, ee_noL, ee_noL.eq_1, List.length_cons, List.length_nil, Nat.reduceAdd, Nat.reduceLT, Nat.zero_add, and_true, true_and, and_self, fin_ite, pu_0, pu_1, pu_3, sto_0, el_0, Bool.not_eq_true, decide_eq_false_iff_not, Bool.decide_eq_true, Bool.decide_eq_false, decide_true, decide_false, Bool.not_true, Bool.not_false, Bool.and_self, Bool.and_true, Bool.and_false, Bool.true_and, Bool.false_and, Bool.or_true, Bool.or_false, Bool.true_or, Bool.false_or, if_true, if_false, Bool.false_eq_true])
      (n - 0) ([some (.ref 0), some (.int (wb Z 0)), some (.int (Int32.ofNat 0))], w1) ⟨0, _, rfl, Nat.zero_le _, rfl, m2, chg_mono m3 (smrg_h 222)⟩
    rw [k_0, show wb Z 0 = 0 from rfl] at hr
    obtain ⟨w', q, rfl, hq2⟩ := hq
    refine ⟨w', ?_, CZ_trial h1 hq2, chg_mono hq2 smrg_lo⟩
    rw [rn_174 cz_0]
    simp only [m1, w_while, hr, cz_0, cz_r0, cz_r3, al_1.1, al_1.2.1, rvs, be_174, k_0, k_1, k_4, nz_1, nz_4, v_and, v_bin, v_call, v_cmp, v_cons, v_get, v_int, v_loc, v_nil, v_z, w_exp0, w_exp1, w_if, w_inc, w_ret, w_seq, w_set, w_skip, List.getElem?_cons_zero, List.getElem?_cons_succ, List.set_cons_zero, List.set_cons_succ, ee_cmp0, ee_cmp1, ee_cmp2, ee_cmp3, ee_cmp4, ee_cmp5, ee_cmpL0, ee_cmpL1, ee_cmpL2, ee_cmpL3, ee_cmpL4, ee_cmpL5, ee_tru_eb, decide_eq_true_eq, ib_i, ie_b, ie_f, ie_t, ib_l, fin_i, fin_l, fin_v, fin_z, fin_a, fin_n, ee_b_0, ee_fld0, ee_fld1, ee_fld2, ee_fld3, bi_0, bi_1, bi_2, bi_3, bi_4, bi_5, bi_6, bi_7, bi_8, bi_9, bi_10, bl_20, bl_21, bl_22, bl_23, bl_24, bl_25, bl_26, bl_48, bl_49, un_0, un_1, un_2, un_3, if_true, if_false, ite_true, ite_false, Bool.false_eq_true, Bool.not_eq_false, decide_not, Bool.not_not, reduceCtorEq, st_i, st_l, st_r, st_n, ee_noL, ee_noL.eq_1, List.length_cons, List.length_nil, Nat.reduceAdd, Nat.reduceLT, Nat.zero_add, and_true, true_and, and_self, fin_ite, pu_0, pu_1, pu_3, sto_0, el_0, Bool.not_eq_true, decide_eq_false_iff_not, Bool.decide_eq_true, Bool.decide_eq_false, decide_true, decide_false, Bool.not_true, Bool.not_false, Bool.and_self, Bool.and_true, Bool.and_false, Bool.true_and, Bool.false_and, Bool.or_true, Bool.or_false, Bool.true_or, Bool.false_or, if_true, if_false, Bool.false_eq_true]
  · intro w1 hM
    have a0 : w1.1 237 0 = Int32.ofNat n := hM.1.1.1.trans n2
    obtain ⟨r, hr, hq⟩ := wh_n (f := ee_turn (ee_ev es_sh es_rf (ee_run ee_B P d) lx_340_2) (ee_evS es_sh es_rf (ee_run ee_B P d) lb_340_2))
      (I := fun m y => ∃ k u v, m = n - k ∧ k ≤ n ∧ y.1 = [some (.ref 236), some (.int (wb Z k)), some (.int (Int32.ofNat k)), u, v] ∧ chk plw w1 y.2)
      (Q := fun r => ∃ w' q u v, r = .inl ([some (.ref 236), some (.int (wb Z n)), some (.int q), u, v], w') ∧ chk plw w1 w')
      (by
        rintro m ⟨env, y⟩ ⟨k, u, v, rfl, hk, he, hcc⟩
        dsimp only at he hcc
        subst he
        have h9 : (Int32.ofNat k < Int32.ofNat n) ↔ k < n := j_lt (by omega) (by omega)
        have e4 : y.1 237 0 = Int32.ofNat n := (hcc.1 _ _ (by unfold plw; omega)).trans a0
        by_cases g : k < n
        · left
          obtain ⟨w2, q, s1, s2⟩ := m_whoseone (P := P) (t := k) (s := wb Z k) hd9 hM h3 (by omega) (by omega) hcc
          have ew : wb Z (k + 1) = if sa Z k Z.1.2.2.2.2.2.1 = true then wb Z k ||| (1 <<< (Int32.ofNat k &&& 31)) else wb Z k := rfl
          refine ⟨([some (.ref 236), some (.int (wb Z (k + 1))), some (.int (Int32.ofNat (k + 1))), some (.int (ee_b (sa Z k Z.1.2.2.2.2.2.1))), some (.int q)], w2), n - (k + 1), ?_, by omega, k + 1, _, _, rfl, by omega, rfl, s2⟩
          rw [ew]
          cases b : sa Z k Z.1.2.2.2.2.2.1 <;> rw [b] at s1 <;> simp only [h9, g, e4, w_while, s1, Int32.or_zero, lx_340_2, lb_340_2, ee_turn, k_0, k_1, k_2, k_38, k_4, nz_1, nz_2, nz_38, nz_4, v_and, v_bin, v_call, v_cmp, v_cons, v_get, v_idx, v_int, v_loc, v_mat, v_nil, v_tern, v_z, w_inc, w_ret, w_seq, w_set, List.getElem?_cons_zero, List.getElem?_cons_succ, List.set_cons_zero, List.set_cons_succ, ee_cmp0, ee_cmp1, ee_cmp2, ee_cmp3, ee_cmp4, ee_cmp5, ee_cmpL0, ee_cmpL1, ee_cmpL2, ee_cmpL3, ee_cmpL4, ee_cmpL5, ee_tru_eb, decide_eq_true_eq, ib_i, ie_b, ie_f, ie_t, ib_l, fin_i, fin_l, fin_v, fin_z, fin_a, fin_n, ee_b_0, ee_fld0, ee_fld1, ee_fld2, ee_fld3, bi_0, bi_1, bi_2, bi_3, bi_4, bi_5, bi_6, bi_7, bi_8, bi_9, bi_10, bl_20, bl_21, bl_22, bl_23, bl_24, bl_25, bl_26, bl_48, bl_49, un_0, un_1, un_2, un_3, if_true, if_false, ite_true, ite_false, Bool.false_eq_true, Bool.not_eq_false, decide_not, Bool.not_not, reduceCtorEq, st_i, st_l, st_r, st_n, ee_noL, ee_noL.eq_1, List.length_cons, List.length_nil, Nat.reduceAdd, Nat.reduceLT, Nat.zero_add, and_true, true_and, and_self, fin_ite, pu_0, pu_1, pu_3, sto_0, el_0, Bool.not_eq_true, decide_eq_false_iff_not, Bool.decide_eq_true, Bool.decide_eq_false, decide_true, decide_false, Bool.not_true, Bool.not_false, Bool.and_self, Bool.and_true, Bool.and_false, Bool.true_and, Bool.false_and, Bool.or_true, Bool.or_false, Bool.true_or, Bool.false_or, if_true, if_false, Bool.false_eq_true, tc_0, ix_0, tc_1, ix_1, tc_2, ix_2, tc_38, ix_38, tc_4, ix_4, mz_0, mz_1, mz_a, rvs, j_s, j_a, wI_at, Nat.reduceEqDiff, zero_ne_one_n, one_ne_zero_n]
        · right
          have hkn : k = n := by omega
          subst hkn
          refine ⟨.inl ([some (.ref 236), some (.int (wb Z k)), some (.int (Int32.ofNat k)), u, v], y), ?_, y, _, _, _, rfl, hcc⟩
          simp only [h9, g, e4, lx_340_2, lb_340_2, ee_turn, k_0, k_1, k_2, k_38, k_4, nz_1, nz_2, nz_38, nz_4, v_and, v_bin, v_call, v_cmp, v_cons, v_get, v_idx, v_int, v_loc, v_mat, v_nil, v_tern, v_z, w_inc, w_ret, w_seq, w_set, List.getElem?_cons_zero, List.getElem?_cons_succ, List.set_cons_zero, List.set_cons_succ, ee_cmp0, ee_cmp1, ee_cmp2, ee_cmp3, ee_cmp4, ee_cmp5, ee_cmpL0, ee_cmpL1, ee_cmpL2, ee_cmpL3, ee_cmpL4, ee_cmpL5, ee_tru_eb, decide_eq_true_eq, ib_i, ie_b, ie_f, ie_t, ib_l, fin_i, fin_l, fin_v, fin_z, fin_a, fin_n, ee_b_0, ee_fld0, ee_fld1, ee_fld2, ee_fld3, bi_0, bi_1, bi_2, bi_3, bi_4, bi_5, bi_6, bi_7, bi_8, bi_9, bi_10, bl_20, bl_21, bl_22, bl_23, bl_24, bl_25, bl_26, bl_48, bl_49, un_0, un_1, un_2, un_3, if_true, if_false, ite_true, ite_false, Bool.false_eq_true, Bool.not_eq_false, decide_not, Bool.not_not, reduceCtorEq, st_i, st_l, st_r, st_n, ee_noL, ee_noL.eq_1, List.length_cons, List.length_nil, Nat.reduceAdd, Nat.reduceLT, Nat.zero_add, and_true, true_and, and_self, fin_ite, pu_0, pu_1, pu_3, sto_0, el_0, Bool.not_eq_true, decide_eq_false_iff_not, Bool.decide_eq_true, Bool.decide_eq_false, decide_true, decide_false, Bool.not_true, Bool.not_false, Bool.and_self, Bool.and_true, Bool.and_false, Bool.true_and, Bool.false_and, Bool.or_true, Bool.or_false, Bool.true_or, Bool.false_or, if_true, if_false, Bool.false_eq_true, tc_0, ix_0, tc_1, ix_1, tc_2, ix_2, tc_38, ix_38, tc_4, ix_4, mz_0, mz_1, mz_a, rvs, j_s, j_a, wI_at, Nat.reduceEqDiff, zero_ne_one_n, one_ne_zero_n])
      (n - 0) ([some (.ref 236), some (.int (wb Z 0)), some (.int (Int32.ofNat 0)), none, none], w1) ⟨0, _, _, rfl, Nat.zero_le _, rfl, chk_refl _ _⟩
    rw [k_0, show wb Z 0 = 0 from rfl] at hr
    obtain ⟨w', q, u, v, rfl, hq2⟩ := hq
    refine ⟨w', ?_, MZ_scr hM h3 hq2 (fun c k q1 q2 => by unfold plw; omega), chk_mono hq2 (fun c k h => by unfold plw at h; unfold phi; omega)⟩
    rw [rn_340 mz_0]
    simp only [w_while, hr, be_340, k_0, k_1, k_2, k_38, k_4, nz_1, nz_2, nz_38, nz_4, v_and, v_bin, v_call, v_cmp, v_cons, v_get, v_idx, v_int, v_loc, v_mat, v_nil, v_tern, v_z, w_inc, w_ret, w_seq, w_set, List.getElem?_cons_zero, List.getElem?_cons_succ, List.set_cons_zero, List.set_cons_succ, ee_cmp0, ee_cmp1, ee_cmp2, ee_cmp3, ee_cmp4, ee_cmp5, ee_cmpL0, ee_cmpL1, ee_cmpL2, ee_cmpL3, ee_cmpL4, ee_cmpL5, ee_tru_eb, decide_eq_true_eq, ib_i, ie_b, ie_f, ie_t, ib_l, fin_i, fin_l, fin_v, fin_z, fin_a, fin_n, ee_b_0, ee_fld0, ee_fld1, ee_fld2, ee_fld3, bi_0, bi_1, bi_2, bi_3, bi_4, bi_5, bi_6, bi_7, bi_8, bi_9, bi_10, bl_20, bl_21, bl_22, bl_23, bl_24, bl_25, bl_26, bl_48, bl_49, un_0, un_1, un_2, un_3, if_true, if_false, ite_true, ite_false, Bool.false_eq_true, Bool.not_eq_false, decide_not, Bool.not_not, reduceCtorEq, st_i, st_l, st_r, st_n, ee_noL, ee_noL.eq_1, List.length_cons, List.length_nil, Nat.reduceAdd, Nat.reduceLT, Nat.zero_add, and_true, true_and, and_self, fin_ite, pu_0, pu_1, pu_3, sto_0, el_0, Bool.not_eq_true, decide_eq_false_iff_not, Bool.decide_eq_true, Bool.decide_eq_false, decide_true, decide_false, Bool.not_true, Bool.not_false, Bool.and_self, Bool.and_true, Bool.and_false, Bool.true_and, Bool.false_and, Bool.or_true, Bool.or_false, Bool.true_or, Bool.false_or, if_true, if_false, Bool.false_eq_true, ix_0, ix_1, ix_2, ix_38, ix_4, tc_0, tc_1, tc_2, tc_38, tc_4, mz_0, mz_1, mz_a, rvs, j_s, j_a, wI_at, Nat.reduceEqDiff, zero_ne_one_n, one_ne_zero_n]
end BN2
