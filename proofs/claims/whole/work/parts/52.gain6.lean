section GF
variable {P : Nat → Nat → List Value → ee_W → Option (List Value × ee_W)} {d : Nat} {w : ee_W} {h : Nat}
theorem cost_1m {o g : Int32} (h : okO o g = true) : ¬ 1000000 ≤ x_cost o g := by
  obtain ⟨a1, a2, a3, a4, a5, a6⟩ := cost_of h
  rw [i32_le]
  have n : (1000000 : Int32).toInt = 1000000 := rfl
  omega
def mg_c (o : Int32) (s : Nat × Nat × Option Value × Option Value) : Int32 := if s.1 = 0 then 1000000 else x_cost o (Int32.ofNat s.2.1)
theorem m_gain (hd : 4 ≤ d) (hh : es_sh h = (18, 0)) (o : Int32) : ee_run ee_B P d 320 [.ref h, .int o] w = some ([.int (x_gain o)], w) := by
  obtain ⟨d, rfl⟩ : ∃ k, d = k + 1 := ⟨d - 1, by omega⟩
  have hd1 : 1 ≤ d := by omega
  have hd2 : 2 ≤ d := by omega
  rw [rn_320 hh]
  unfold x_gain
  cases h1 : okO o 0
  · simp only [r_isOffM hd2, h1, bd_320, k_0, k_1000, k_1000000, k_16, k_4294967295, nz_1000, nz_1000000, nz_16, v_bin, v_call, v_cmp, v_cons, v_int, v_loc, v_nil, v_not, v_z, w_if, w_inc, w_ret, w_seq, w_set, w_skip, List.getElem?_cons_zero, List.getElem?_cons_succ, List.set_cons_zero, List.set_cons_succ, ee_cmp0, ee_cmp1, ee_cmp2, ee_cmp3, ee_cmp4, ee_cmp5, ee_cmpL0, ee_cmpL1, ee_cmpL2, ee_cmpL3, ee_cmpL4, ee_cmpL5, ee_tru_eb, decide_eq_true_eq, ib_i, ie_b, ie_f, ie_t, ib_l, fin_i, fin_l, fin_v, fin_z, fin_a, fin_n, ee_b_0, ee_fld0, ee_fld1, ee_fld2, ee_fld3, bi_0, bi_1, bi_2, bi_3, bi_4, bi_5, bi_6, bi_7, bi_8, bi_9, bi_10, bl_20, bl_21, bl_22, bl_23, bl_24, bl_25, bl_26, bl_48, bl_49, un_0, un_1, un_2, un_3, if_true, if_false, ite_true, ite_false, Bool.false_eq_true, Bool.not_eq_false, decide_not, Bool.not_not, reduceCtorEq, st_i, st_l, st_r, st_n, ee_noL, ee_noL.eq_1, List.length_cons, List.length_nil, Nat.reduceAdd, Nat.reduceLT, Nat.zero_add, and_true, true_and, and_self, fin_ite, pu_0, pu_1, pu_3, sto_0, el_0, Bool.not_eq_true, decide_eq_false_iff_not, Bool.decide_eq_true, Bool.decide_eq_false, decide_true, decide_false, Bool.not_true, Bool.not_false, Bool.and_self, Bool.and_true, Bool.and_false, Bool.true_and, Bool.false_and, Bool.or_true, Bool.or_false, Bool.true_or, Bool.false_or, if_true, if_false, Bool.false_eq_true]
  · simp only [r_isOffM hd2, h1, w_while, bd_320, k_0, k_1000, k_1000000, k_16, k_4294967295, nz_1000, nz_1000000, nz_16, v_bin, v_call, v_cmp, v_cons, v_int, v_loc, v_nil, v_not, v_z, w_if, w_inc, w_ret, w_seq, w_set, w_skip, List.getElem?_cons_zero, List.getElem?_cons_succ, List.set_cons_zero, List.set_cons_succ, ee_cmp0, ee_cmp1, ee_cmp2, ee_cmp3, ee_cmp4, ee_cmp5, ee_cmpL0, ee_cmpL1, ee_cmpL2, ee_cmpL3, ee_cmpL4, ee_cmpL5, ee_tru_eb, decide_eq_true_eq, ib_i, ie_b, ie_f, ie_t, ib_l, fin_i, fin_l, fin_v, fin_z, fin_a, fin_n, ee_b_0, ee_fld0, ee_fld1, ee_fld2, ee_fld3, bi_0, bi_1, bi_2, bi_3, bi_4, bi_5, bi_6, bi_7, bi_8, bi_9, bi_10, bl_20, bl_21, bl_22, bl_23, bl_24, bl_25, bl_26, bl_48, bl_49, un_0, un_1, un_2, un_3, if_true, if_false, ite_true, ite_false, Bool.false_eq_true, Bool.not_eq_false, decide_not, Bool.not_not, reduceCtorEq, st_i, st_l, st_r, st_n, ee_noL, ee_noL.eq_1, List.length_cons, List.length_nil, Nat.reduceAdd, Nat.reduceLT, Nat.zero_add, and_true, true_and, and_self, fin_ite, pu_0, pu_1, pu_3, sto_0, el_0, Bool.not_eq_true, decide_eq_false_iff_not, Bool.decide_eq_true, Bool.decide_eq_false, decide_true, decide_false, Bool.not_true, Bool.not_false, Bool.and_self, Bool.and_true, Bool.and_false, Bool.true_and, Bool.false_and, Bool.or_true, Bool.or_false, Bool.true_or, Bool.false_or, if_true, if_false, Bool.false_eq_true]
    have hl := ee_wh_lp (x := ee_ev es_sh es_rf (ee_run ee_B P d) (n_cmp 5 (n_loc 4 0) (n_int 16))) (b := ee_evS es_sh es_rf (ee_run ee_B P d) (s_seq 70 (s_seq 34 (s_set 5 0 (n_call 319 (n_cons (n_loc 1 0) (n_cons (n_loc 4 0) n_nil)))) (s_seq 55 (s_set 6 0 (n_bin 0 (n_bin 2 (n_int 1000) (n_call 291 (n_cons (n_loc 1 0) (n_cons (n_call 316 (n_cons (n_loc 1 0) (n_cons (n_loc 4 0) (n_cons (n_loc 5 0) n_nil)))) n_nil)))) (n_loc 5 0))) (s_if 61 64 (n_cmp 3 (n_loc 6 0) (n_loc 3 0)) s_skip (s_seq 67 (s_set 3 0 (n_loc 6 0)) (s_set 2 0 (n_loc 4 0)))))) (s_inc 4 1)))
      (fun s : Nat × Nat × Option Value × Option Value => ([some (.ref h), some (.int o), some (.int (Int32.ofNat s.2.1)), some (.int (mg_c o s)), some (.int (Int32.ofNat s.1)), s.2.2.1, s.2.2.2], w)) (fun s => decide (s.1 ≤ 16)) (mg_n o) (fun s => s.1 ≤ 17 ∧ s.2.1 ≤ 16) (fun s => 17 - s.1)
      (by
        intro s hi
        have hi : s.1 ≤ 17 ∧ s.2.1 ≤ 16 := hi
        have h9 : (Int32.ofNat s.1 ≤ 16) ↔ s.1 ≤ 16 := j_le (b := 16) (by omega) (by omega)
        by_cases q : s.1 ≤ 16
        · have k1 := okO_of h1 s.1 q
          have k2 := okO_of h1 s.2.1 hi.2
          have e1 := r_restsBy (P := P) (w := w) hd2 o _ (okR_of k1)
          have e2 := r_learntBy (P := P) (w := w) hd2 o (Int32.ofNat s.1) (r_t o (Int32.ofNat s.1)).1 (by have := rt_le o (Int32.ofNat s.1); omega)
          rw [by_rt, show Int32.ofNat (r_t o (Int32.ofNat s.1)).1 = x_rest o (Int32.ofNat s.1) from rfl] at e2
          have e3 := r_apartBy (P := P) (w := w) hd1 o (r_t o (Int32.ofNat s.1)).2
          rw [show (if o < (r_t o (Int32.ofNat s.1)).2 then (r_t o (Int32.ofNat s.1)).2 - o else o - (r_t o (Int32.ofNat s.1)).2) = x_ap o (Int32.ofNat s.1) from rfl] at e3
          have e4 : 1000 * x_ap o (Int32.ofNat s.1) + x_rest o (Int32.ofNat s.1) = x_cost o (Int32.ofNat s.1) := rfl
          have zz : ¬ (s.1 + 1 = 0) := by omega
          by_cases z : s.1 = 0
          · have c := cost_1m k1
            obtain ⟨a, b, x, y⟩ := s
            have z' : a = 0 := z
            subst z'
            have z0 : (0 : Nat) ≤ 16 := by omega
            have z1 : ¬ (0 + 1 = 0) := by omega
            dsimp only at e1 e2 e3 e4 c
            simp only [k_0] at e1 e2 e3 e4 c
            have h9' : ((0 : Int32) ≤ 16) := by decide
            simp only [ee_turn, mg_n, mg_c, e1, e2, e3, e4, c, z0, z1, h9', j_a, bd_320, k_0, k_1000, k_1000000, k_16, k_4294967295, nz_1000, nz_1000000, nz_16, v_bin, v_call, v_cmp, v_cons, v_int, v_loc, v_nil, v_not, v_z, w_if, w_inc, w_ret, w_seq, w_set, w_skip, List.getElem?_cons_zero, List.getElem?_cons_succ, List.set_cons_zero, List.set_cons_succ, ee_cmp0, ee_cmp1, ee_cmp2, ee_cmp3, ee_cmp4, ee_cmp5, ee_cmpL0, ee_cmpL1, ee_cmpL2, ee_cmpL3, ee_cmpL4, ee_cmpL5, ee_tru_eb, decide_eq_true_eq, ib_i, ie_b, ie_f, ie_t, ib_l, fin_i, fin_l, fin_v, fin_z, fin_a, fin_n, ee_b_0, ee_fld0, ee_fld1, ee_fld2, ee_fld3, bi_0, bi_1, bi_2, bi_3, bi_4, bi_5, bi_6, bi_7, bi_8, bi_9, bi_10, bl_20, bl_21, bl_22, bl_23, bl_24, bl_25, bl_26, bl_48, bl_49, un_0, un_1, un_2, un_3, if_true, if_false, ite_true, ite_false, Bool.false_eq_true, Bool.not_eq_false, decide_not, Bool.not_not, reduceCtorEq, st_i, st_l, st_r, st_n, ee_noL, ee_noL.eq_1, List.length_cons, List.length_nil, Nat.reduceAdd, Nat.reduceLT, Nat.zero_add, and_true, true_and, and_self, fin_ite, pu_0, pu_1, pu_3, sto_0, el_0, Bool.not_eq_true, decide_eq_false_iff_not, Bool.decide_eq_true, Bool.decide_eq_false, decide_true, decide_false, Bool.not_true, Bool.not_false, Bool.and_self, Bool.and_true, Bool.and_false, Bool.true_and, Bool.false_and, Bool.or_true, Bool.or_false, Bool.true_or, Bool.false_or, if_true, if_false, Bool.false_eq_true]
            rfl
          · have cl := cost_lt k1 k2
            by_cases b : ga_b o s.1 s.2.1 = true
            · have c : ¬ x_cost o (Int32.ofNat s.2.1) ≤ x_cost o (Int32.ofNat s.1) := by
                unfold ga_b at b
                rw [Bool.or_eq_true, Bool.and_eq_true, decide_eq_true_eq, decide_eq_true_eq, decide_eq_true_eq] at b
                have := i32_lt.1 (cl.2 b)
                rw [i32_le]; omega
              simp only [ee_turn, mg_n, mg_c, e1, e2, e3, e4, zz, h9, q, z, c, b, j_a, bd_320, k_0, k_1000, k_1000000, k_16, k_4294967295, nz_1000, nz_1000000, nz_16, v_bin, v_call, v_cmp, v_cons, v_int, v_loc, v_nil, v_not, v_z, w_if, w_inc, w_ret, w_seq, w_set, w_skip, List.getElem?_cons_zero, List.getElem?_cons_succ, List.set_cons_zero, List.set_cons_succ, ee_cmp0, ee_cmp1, ee_cmp2, ee_cmp3, ee_cmp4, ee_cmp5, ee_cmpL0, ee_cmpL1, ee_cmpL2, ee_cmpL3, ee_cmpL4, ee_cmpL5, ee_tru_eb, decide_eq_true_eq, ib_i, ie_b, ie_f, ie_t, ib_l, fin_i, fin_l, fin_v, fin_z, fin_a, fin_n, ee_b_0, ee_fld0, ee_fld1, ee_fld2, ee_fld3, bi_0, bi_1, bi_2, bi_3, bi_4, bi_5, bi_6, bi_7, bi_8, bi_9, bi_10, bl_20, bl_21, bl_22, bl_23, bl_24, bl_25, bl_26, bl_48, bl_49, un_0, un_1, un_2, un_3, if_true, if_false, ite_true, ite_false, Bool.false_eq_true, Bool.not_eq_false, decide_not, Bool.not_not, reduceCtorEq, st_i, st_l, st_r, st_n, ee_noL, ee_noL.eq_1, List.length_cons, List.length_nil, Nat.reduceAdd, Nat.reduceLT, Nat.zero_add, and_true, true_and, and_self, fin_ite, pu_0, pu_1, pu_3, sto_0, el_0, Bool.not_eq_true, decide_eq_false_iff_not, Bool.decide_eq_true, Bool.decide_eq_false, decide_true, decide_false, Bool.not_true, Bool.not_false, Bool.and_self, Bool.and_true, Bool.and_false, Bool.true_and, Bool.false_and, Bool.or_true, Bool.or_false, Bool.true_or, Bool.false_or, if_true, if_false, Bool.false_eq_true]
            · have c : x_cost o (Int32.ofNat s.2.1) ≤ x_cost o (Int32.ofNat s.1) := by
                unfold ga_b at b
                rw [Bool.or_eq_true, Bool.and_eq_true, decide_eq_true_eq, decide_eq_true_eq, decide_eq_true_eq] at b
                have h7 : ¬ x_cost o (Int32.ofNat s.1) < x_cost o (Int32.ofNat s.2.1) := fun z => b (cl.1 z)
                rw [i32_lt] at h7
                rw [i32_le]; omega
              simp only [ee_turn, mg_n, mg_c, e1, e2, e3, e4, zz, h9, q, z, c, b, j_a, bd_320, k_0, k_1000, k_1000000, k_16, k_4294967295, nz_1000, nz_1000000, nz_16, v_bin, v_call, v_cmp, v_cons, v_int, v_loc, v_nil, v_not, v_z, w_if, w_inc, w_ret, w_seq, w_set, w_skip, List.getElem?_cons_zero, List.getElem?_cons_succ, List.set_cons_zero, List.set_cons_succ, ee_cmp0, ee_cmp1, ee_cmp2, ee_cmp3, ee_cmp4, ee_cmp5, ee_cmpL0, ee_cmpL1, ee_cmpL2, ee_cmpL3, ee_cmpL4, ee_cmpL5, ee_tru_eb, decide_eq_true_eq, ib_i, ie_b, ie_f, ie_t, ib_l, fin_i, fin_l, fin_v, fin_z, fin_a, fin_n, ee_b_0, ee_fld0, ee_fld1, ee_fld2, ee_fld3, bi_0, bi_1, bi_2, bi_3, bi_4, bi_5, bi_6, bi_7, bi_8, bi_9, bi_10, bl_20, bl_21, bl_22, bl_23, bl_24, bl_25, bl_26, bl_48, bl_49, un_0, un_1, un_2, un_3, if_true, if_false, ite_true, ite_false, Bool.false_eq_true, Bool.not_eq_false, decide_not, Bool.not_not, reduceCtorEq, st_i, st_l, st_r, st_n, ee_noL, ee_noL.eq_1, List.length_cons, List.length_nil, Nat.reduceAdd, Nat.reduceLT, Nat.zero_add, and_true, true_and, and_self, fin_ite, pu_0, pu_1, pu_3, sto_0, el_0, Bool.not_eq_true, decide_eq_false_iff_not, Bool.decide_eq_true, Bool.decide_eq_false, decide_true, decide_false, Bool.not_true, Bool.not_false, Bool.and_self, Bool.and_true, Bool.and_false, Bool.true_and, Bool.false_and, Bool.or_true, Bool.or_false, Bool.true_or, Bool.false_or, if_true, if_false, Bool.false_eq_true]
        · simp only [ee_turn, h9, q, bd_320, k_0, k_1000, k_1000000, k_16, k_4294967295, nz_1000, nz_1000000, nz_16, v_bin, v_call, v_cmp, v_cons, v_int, v_loc, v_nil, v_not, v_z, w_if, w_inc, w_ret, w_seq, w_set, w_skip, List.getElem?_cons_zero, List.getElem?_cons_succ, List.set_cons_zero, List.set_cons_succ, ee_cmp0, ee_cmp1, ee_cmp2, ee_cmp3, ee_cmp4, ee_cmp5, ee_cmpL0, ee_cmpL1, ee_cmpL2, ee_cmpL3, ee_cmpL4, ee_cmpL5, ee_tru_eb, decide_eq_true_eq, ib_i, ie_b, ie_f, ie_t, ib_l, fin_i, fin_l, fin_v, fin_z, fin_a, fin_n, ee_b_0, ee_fld0, ee_fld1, ee_fld2, ee_fld3, bi_0, bi_1, bi_2, bi_3, bi_4, bi_5, bi_6, bi_7, bi_8, bi_9, bi_10, bl_20, bl_21, bl_22, bl_23, bl_24, bl_25, bl_26, bl_48, bl_49, un_0, un_1, un_2, un_3, if_true, if_false, ite_true, ite_false, Bool.false_eq_true, Bool.not_eq_false, decide_not, Bool.not_not, reduceCtorEq, st_i, st_l, st_r, st_n, ee_noL, ee_noL.eq_1, List.length_cons, List.length_nil, Nat.reduceAdd, Nat.reduceLT, Nat.zero_add, and_true, true_and, and_self, fin_ite, pu_0, pu_1, pu_3, sto_0, el_0, Bool.not_eq_true, decide_eq_false_iff_not, Bool.decide_eq_true, Bool.decide_eq_false, decide_true, decide_false, Bool.not_true, Bool.not_false, Bool.and_self, Bool.and_true, Bool.and_false, Bool.true_and, Bool.false_and, Bool.or_true, Bool.or_false, Bool.true_or, Bool.false_or, if_true, if_false, Bool.false_eq_true])
      (by
        intro s hi hc
        have hi : s.1 ≤ 17 ∧ s.2.1 ≤ 16 := hi
        simp only [decide_eq_true_eq] at hc
        show s.1 + 1 ≤ 17 ∧ (if s.1 = 0 then 0 else if ga_b o s.1 s.2.1 = true then s.1 else s.2.1) ≤ 16
        exact ⟨by omega, by split; omega; split <;> omega⟩)
      (by
        intro s hi hc
        simp only [decide_eq_true_eq] at hc
        show 17 - (s.1 + 1) < 17 - s.1
        omega)
      21 (0, 0, none, none) ⟨by decide, by decide⟩ (by decide)
    rw [show (Int32.ofNat ((0, 0, none, none) : Nat × Nat × Option Value × Option Value).1) = 0 from rfl, show mg_c o (0, 0, none, none) = 1000000 from rfl] at hl
    rw [hl.1]
    have hg : (lp (fun s => decide (s.1 ≤ 16)) (mg_n o) 21 (0, 0, none, none)).2.1 = ga o := by
      unfold ga
      rw [ga_gp]
      show (lp (fun s => decide (s.1 ≤ 16)) (mg_n o) 20 (mg_n o (0, 0, none, none))).2.1 = _
      rw [mg_gp o 20 _ (Nat.le_refl _)]
      rfl
    simp only [hg, bd_320, k_0, k_1000, k_1000000, k_16, k_4294967295, nz_1000, nz_1000000, nz_16, v_bin, v_call, v_cmp, v_cons, v_int, v_loc, v_nil, v_not, v_z, w_if, w_inc, w_ret, w_seq, w_set, w_skip, List.getElem?_cons_zero, List.getElem?_cons_succ, List.set_cons_zero, List.set_cons_succ, ee_cmp0, ee_cmp1, ee_cmp2, ee_cmp3, ee_cmp4, ee_cmp5, ee_cmpL0, ee_cmpL1, ee_cmpL2, ee_cmpL3, ee_cmpL4, ee_cmpL5, ee_tru_eb, decide_eq_true_eq, ib_i, ie_b, ie_f, ie_t, ib_l, fin_i, fin_l, fin_v, fin_z, fin_a, fin_n, ee_b_0, ee_fld0, ee_fld1, ee_fld2, ee_fld3, bi_0, bi_1, bi_2, bi_3, bi_4, bi_5, bi_6, bi_7, bi_8, bi_9, bi_10, bl_20, bl_21, bl_22, bl_23, bl_24, bl_25, bl_26, bl_48, bl_49, un_0, un_1, un_2, un_3, if_true, if_false, ite_true, ite_false, Bool.false_eq_true, Bool.not_eq_false, decide_not, Bool.not_not, reduceCtorEq, st_i, st_l, st_r, st_n, ee_noL, ee_noL.eq_1, List.length_cons, List.length_nil, Nat.reduceAdd, Nat.reduceLT, Nat.zero_add, and_true, true_and, and_self, fin_ite, pu_0, pu_1, pu_3, sto_0, el_0, Bool.not_eq_true, decide_eq_false_iff_not, Bool.decide_eq_true, Bool.decide_eq_false, decide_true, decide_false, Bool.not_true, Bool.not_false, Bool.and_self, Bool.and_true, Bool.and_false, Bool.true_and, Bool.false_and, Bool.or_true, Bool.or_false, Bool.true_or, Bool.false_or, if_true, if_false, Bool.false_eq_true]
end GF
