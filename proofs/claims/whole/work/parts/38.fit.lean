section FJ
variable {P : Nat → Nat → List Value → ee_W → Option (List Value × ee_W)} {d : Nat} {w : ee_W} {h : Nat}
def tI (c : Int32) : Nat := (ctrack c).toInt.toNat
def x_fits (x a b c e : Int32) : Int32 := if ((decide (0 ≤ x) && decide (x < 64)) && (okB a && okB b && okB c && okB e)) = true then Int32.ofNat (cnt (fun p => bears (Int32.ofNat p) a b c e) (lowN (tI x)) (highN (tI x) + 1 - lowN (tI x))) else -1
theorem lim {t : Nat} (ht : t < 64) : lowN t < 1024 ∧ highN t < 1024 ∧ lowN t ≤ highN t := by
  refine ⟨by unfold lowN; omega, by unfold highN; split <;> omega, by unfold lowN highN; split <;> omega⟩
theorem cb_in (q : Nat → Bool) (lo hi : Nat) (h1 : lo ≤ hi) (h2 : hi ≤ 1023) : cb q hi lo = cnt q lo (hi + 1 - lo) := by
  unfold cb
  rw [cb_cnt q hi 1100 lo 0 (by omega), Nat.zero_add]
theorem q_fits (hd : 5 ≤ d) (hh : es_sh h = (10, 0)) (x a b c e : Int32) : ee_run ee_B P d 127 [.ref h, .int x, .int a, .int b, .int c, .int e] w = some ([.int (x_fits x a b c e)], w) := by
  obtain ⟨d, rfl⟩ : ∃ k, d = k + 1 := ⟨d - 1, by omega⟩
  have hd1 : 1 ≤ d := by omega
  have hd2 : 2 ≤ d := by omega
  have hd4 : 4 ≤ d := by omega
  rw [rn_127 hh]
  unfold x_fits
  cases h1 : (decide (0 ≤ x) && decide (x < 64)) <;> cases h2 : (okB a && okB b && okB c && okB e) <;> try (simp only [r_isTrack hd1, r_areB hd2, h1, h2, bd_127, k_4294967295, v_call, v_cons, v_int, v_loc, v_nil, v_not, v_or, v_z, w_if, w_ret, w_seq, w_set, List.getElem?_cons_zero, List.getElem?_cons_succ, List.set_cons_zero, List.set_cons_succ, ee_cmp0, ee_cmp1, ee_cmp2, ee_cmp3, ee_cmp4, ee_cmp5, ee_cmpL0, ee_cmpL1, ee_cmpL2, ee_cmpL3, ee_cmpL4, ee_cmpL5, ee_tru_eb, decide_eq_true_eq, ib_i, ie_b, ie_f, ie_t, ib_l, fin_i, fin_l, fin_v, fin_z, fin_a, fin_n, ee_b_0, ee_fld0, ee_fld1, ee_fld2, ee_fld3, bi_0, bi_1, bi_2, bi_3, bi_4, bi_5, bi_6, bi_7, bi_8, bi_9, bi_10, bl_20, bl_21, bl_22, bl_23, bl_24, bl_25, bl_26, bl_48, bl_49, un_0, un_1, un_2, un_3, if_true, if_false, ite_true, ite_false, Bool.false_eq_true, Bool.not_eq_false, decide_not, Bool.not_not, reduceCtorEq, st_i, st_l, st_r, st_n, ee_noL, ee_noL.eq_1, List.length_cons, List.length_nil, Nat.reduceAdd, Nat.reduceLT, Nat.zero_add, and_true, true_and, and_self, fin_ite, pu_0, pu_1, pu_3, sto_0, el_0, Bool.not_eq_true, decide_eq_false_iff_not, Bool.decide_eq_true, Bool.decide_eq_false, decide_true, decide_false, Bool.not_true, Bool.not_false, Bool.and_self, Bool.and_true, Bool.and_false, Bool.true_and, Bool.false_and, Bool.or_true, Bool.or_false, Bool.true_or, Bool.false_or, if_true, if_false, Bool.false_eq_true]; done)
  obtain ⟨n, hn, rfl⟩ := of64 h1
  obtain ⟨t1, t2, t3, t4⟩ := rim_all n hn
  obtain ⟨l1, l2, l3⟩ := lim t4
  have e1 := r_lowRim (P := P) (w := w) hd2 (ctrack (Int32.ofNat n))
  have e2 := r_highRim (P := P) (w := w) hd2 (ctrack (Int32.ofNat n))
  rw [t1] at e1
  rw [t2] at e2
  have e3 := r_count (P := P) (w := w) hd4 (lowN (tk n)) (highN (tk n)) (by omega) (by omega) a b c e
  rw [cb_in _ _ _ l3 (by omega)] at e3
  have e4 : tI (Int32.ofNat n) = tk n := rfl
  simp only [r_isTrack hd1, r_areB hd2, r_trackOf hd1, e1, e2, e3, e4, h1, h2, bd_127, k_4294967295, v_call, v_cons, v_int, v_loc, v_nil, v_not, v_or, v_z, w_if, w_ret, w_seq, w_set, List.getElem?_cons_zero, List.getElem?_cons_succ, List.set_cons_zero, List.set_cons_succ, ee_cmp0, ee_cmp1, ee_cmp2, ee_cmp3, ee_cmp4, ee_cmp5, ee_cmpL0, ee_cmpL1, ee_cmpL2, ee_cmpL3, ee_cmpL4, ee_cmpL5, ee_tru_eb, decide_eq_true_eq, ib_i, ie_b, ie_f, ie_t, ib_l, fin_i, fin_l, fin_v, fin_z, fin_a, fin_n, ee_b_0, ee_fld0, ee_fld1, ee_fld2, ee_fld3, bi_0, bi_1, bi_2, bi_3, bi_4, bi_5, bi_6, bi_7, bi_8, bi_9, bi_10, bl_20, bl_21, bl_22, bl_23, bl_24, bl_25, bl_26, bl_48, bl_49, un_0, un_1, un_2, un_3, if_true, if_false, ite_true, ite_false, Bool.false_eq_true, Bool.not_eq_false, decide_not, Bool.not_not, reduceCtorEq, st_i, st_l, st_r, st_n, ee_noL, ee_noL.eq_1, List.length_cons, List.length_nil, Nat.reduceAdd, Nat.reduceLT, Nat.zero_add, and_true, true_and, and_self, fin_ite, pu_0, pu_1, pu_3, sto_0, el_0, Bool.not_eq_true, decide_eq_false_iff_not, Bool.decide_eq_true, Bool.decide_eq_false, decide_true, decide_false, Bool.not_true, Bool.not_false, Bool.and_self, Bool.and_true, Bool.and_false, Bool.true_and, Bool.false_and, Bool.or_true, Bool.or_false, Bool.true_or, Bool.false_or, if_true, if_false, Bool.false_eq_true]
theorem cnt_m (n : Nat) (hn : n < 64) (q : Nat → Bool) : cb (fun p => rT (tk n) p && q p) 1023 0 = cnt q (lowN (tk n)) (highN (tk n) + 1 - lowN (tk n)) := by
  obtain ⟨t1, t2, t3, t4⟩ := rim_all n hn
  obtain ⟨l1, l2, l3⟩ := lim t4
  rw [cb_in _ 0 1023 (by omega) (by omega), ← cnt_in q _ _ l3 (by omega)]
  exact cnt_congr _ _ _ _ (fun p a b => by rw [rT_iff t4 (by omega)])
theorem m_fits (hd : 5 ≤ d) (hh : es_sh h = (18, 0)) (x a b c e : Int32) : ee_run ee_B P d 300 [.ref h, .int x, .int a, .int b, .int c, .int e] w = some ([.int (x_fits x a b c e)], w) := by
  obtain ⟨d, rfl⟩ : ∃ k, d = k + 1 := ⟨d - 1, by omega⟩
  have hd3 : 3 ≤ d := by omega
  have hd4 : 4 ≤ d := by omega
  rw [rn_300 hh]
  unfold x_fits
  cases h1 : ((decide (0 ≤ x) && decide (x < 64)) && (okB a && okB b && okB c && okB e))
  · simp only [r_areReadM hd3 hh, h1, bd_300, k_0, k_1, k_1023, k_4294967295, nz_1, nz_1023, v_bin, v_call, v_cmp, v_cons, v_int, v_loc, v_nil, v_not, v_tern, v_z, w_if, w_inc, w_ret, w_seq, w_set, List.getElem?_cons_zero, List.getElem?_cons_succ, List.set_cons_zero, List.set_cons_succ, ee_cmp0, ee_cmp1, ee_cmp2, ee_cmp3, ee_cmp4, ee_cmp5, ee_cmpL0, ee_cmpL1, ee_cmpL2, ee_cmpL3, ee_cmpL4, ee_cmpL5, ee_tru_eb, decide_eq_true_eq, ib_i, ie_b, ie_f, ie_t, ib_l, fin_i, fin_l, fin_v, fin_z, fin_a, fin_n, ee_b_0, ee_fld0, ee_fld1, ee_fld2, ee_fld3, bi_0, bi_1, bi_2, bi_3, bi_4, bi_5, bi_6, bi_7, bi_8, bi_9, bi_10, bl_20, bl_21, bl_22, bl_23, bl_24, bl_25, bl_26, bl_48, bl_49, un_0, un_1, un_2, un_3, if_true, if_false, ite_true, ite_false, Bool.false_eq_true, Bool.not_eq_false, decide_not, Bool.not_not, reduceCtorEq, st_i, st_l, st_r, st_n, ee_noL, ee_noL.eq_1, List.length_cons, List.length_nil, Nat.reduceAdd, Nat.reduceLT, Nat.zero_add, and_true, true_and, and_self, fin_ite, pu_0, pu_1, pu_3, sto_0, el_0, Bool.not_eq_true, decide_eq_false_iff_not, Bool.decide_eq_true, Bool.decide_eq_false, decide_true, decide_false, Bool.not_true, Bool.not_false, Bool.and_self, Bool.and_true, Bool.and_false, Bool.true_and, Bool.false_and, Bool.or_true, Bool.or_false, Bool.true_or, Bool.false_or, if_true, if_false, Bool.false_eq_true]
  · obtain ⟨n, hn, rfl⟩ := of64 (Bool.and_eq_true_iff.1 h1).1
    simp only [r_areReadM hd3 hh, h1, w_while, bd_300, k_0, k_1, k_1023, k_4294967295, nz_1, nz_1023, v_bin, v_call, v_cmp, v_cons, v_int, v_loc, v_nil, v_not, v_tern, v_z, w_if, w_inc, w_ret, w_seq, w_set, List.getElem?_cons_zero, List.getElem?_cons_succ, List.set_cons_zero, List.set_cons_succ, ee_cmp0, ee_cmp1, ee_cmp2, ee_cmp3, ee_cmp4, ee_cmp5, ee_cmpL0, ee_cmpL1, ee_cmpL2, ee_cmpL3, ee_cmpL4, ee_cmpL5, ee_tru_eb, decide_eq_true_eq, ib_i, ie_b, ie_f, ie_t, ib_l, fin_i, fin_l, fin_v, fin_z, fin_a, fin_n, ee_b_0, ee_fld0, ee_fld1, ee_fld2, ee_fld3, bi_0, bi_1, bi_2, bi_3, bi_4, bi_5, bi_6, bi_7, bi_8, bi_9, bi_10, bl_20, bl_21, bl_22, bl_23, bl_24, bl_25, bl_26, bl_48, bl_49, un_0, un_1, un_2, un_3, if_true, if_false, ite_true, ite_false, Bool.false_eq_true, Bool.not_eq_false, decide_not, Bool.not_not, reduceCtorEq, st_i, st_l, st_r, st_n, ee_noL, ee_noL.eq_1, List.length_cons, List.length_nil, Nat.reduceAdd, Nat.reduceLT, Nat.zero_add, and_true, true_and, and_self, fin_ite, pu_0, pu_1, pu_3, sto_0, el_0, Bool.not_eq_true, decide_eq_false_iff_not, Bool.decide_eq_true, Bool.decide_eq_false, decide_true, decide_false, Bool.not_true, Bool.not_false, Bool.and_self, Bool.and_true, Bool.and_false, Bool.true_and, Bool.false_and, Bool.or_true, Bool.or_false, Bool.true_or, Bool.false_or, if_true, if_false, Bool.false_eq_true]
    have hl := ee_wh_lp (x := ee_ev es_sh es_rf (ee_run ee_B P d) (n_cmp 5 (n_loc 7 0) (n_int 1023))) (b := ee_evS es_sh es_rf (ee_run ee_B P d) (s_seq 56 (s_set 6 0 (n_bin 0 (n_loc 6 0) (n_tern (n_z 1 (n_call 297 (n_cons (n_loc 0 2) (n_cons (n_loc 7 0) (n_cons (n_loc 1 0) (n_cons (n_loc 2 0) (n_cons (n_loc 3 0) (n_cons (n_loc 4 0) (n_cons (n_loc 5 0) n_nil))))))))) (n_int 1) (n_int 0)))) (s_inc 7 1)))
      (fun s : Nat × Nat => ([some (.ref h), some (.int (Int32.ofNat n)), some (.int a), some (.int b), some (.int c), some (.int e), some (.int (Int32.ofNat s.2)), some (.int (Int32.ofNat s.1))], w)) (fun s => decide (s.1 ≤ 1023)) (cb_n (fun p => rT (tk n) p && bears (Int32.ofNat p) a b c e)) (fun s => s.1 ≤ 1024) (fun s => 1024 - s.1)
      (by
        intro s hi
        have hi : s.1 ≤ 1024 := hi
        have h9 : (Int32.ofNat s.1 ≤ 1023) ↔ s.1 ≤ 1023 := j_le (b := 1023) (by omega) (by omega)
        by_cases q : s.1 ≤ 1023
        · have g := r_canBe (P := P) (w := w) hd4 hh s.1 n (by omega) hn a b c e
          cases k0 : (rT (tk n) s.1 && bears (Int32.ofNat s.1) a b c e) <;> rw [k0] at g <;> simp only [ee_turn, cb_n, g, k0, h9, q, j_s, j_a, Int32.add_zero, bd_300, k_0, k_1, k_1023, k_4294967295, nz_1, nz_1023, v_bin, v_call, v_cmp, v_cons, v_int, v_loc, v_nil, v_not, v_tern, v_z, w_if, w_inc, w_ret, w_seq, w_set, List.getElem?_cons_zero, List.getElem?_cons_succ, List.set_cons_zero, List.set_cons_succ, ee_cmp0, ee_cmp1, ee_cmp2, ee_cmp3, ee_cmp4, ee_cmp5, ee_cmpL0, ee_cmpL1, ee_cmpL2, ee_cmpL3, ee_cmpL4, ee_cmpL5, ee_tru_eb, decide_eq_true_eq, ib_i, ie_b, ie_f, ie_t, ib_l, fin_i, fin_l, fin_v, fin_z, fin_a, fin_n, ee_b_0, ee_fld0, ee_fld1, ee_fld2, ee_fld3, bi_0, bi_1, bi_2, bi_3, bi_4, bi_5, bi_6, bi_7, bi_8, bi_9, bi_10, bl_20, bl_21, bl_22, bl_23, bl_24, bl_25, bl_26, bl_48, bl_49, un_0, un_1, un_2, un_3, if_true, if_false, ite_true, ite_false, Bool.false_eq_true, Bool.not_eq_false, decide_not, Bool.not_not, reduceCtorEq, st_i, st_l, st_r, st_n, ee_noL, ee_noL.eq_1, List.length_cons, List.length_nil, Nat.reduceAdd, Nat.reduceLT, Nat.zero_add, and_true, true_and, and_self, fin_ite, pu_0, pu_1, pu_3, sto_0, el_0, Bool.not_eq_true, decide_eq_false_iff_not, Bool.decide_eq_true, Bool.decide_eq_false, decide_true, decide_false, Bool.not_true, Bool.not_false, Bool.and_self, Bool.and_true, Bool.and_false, Bool.true_and, Bool.false_and, Bool.or_true, Bool.or_false, Bool.true_or, Bool.false_or, if_true, if_false, Bool.false_eq_true]
        · simp only [ee_turn, h9, q, bd_300, k_0, k_1, k_1023, k_4294967295, nz_1, nz_1023, v_bin, v_call, v_cmp, v_cons, v_int, v_loc, v_nil, v_not, v_tern, v_z, w_if, w_inc, w_ret, w_seq, w_set, List.getElem?_cons_zero, List.getElem?_cons_succ, List.set_cons_zero, List.set_cons_succ, ee_cmp0, ee_cmp1, ee_cmp2, ee_cmp3, ee_cmp4, ee_cmp5, ee_cmpL0, ee_cmpL1, ee_cmpL2, ee_cmpL3, ee_cmpL4, ee_cmpL5, ee_tru_eb, decide_eq_true_eq, ib_i, ie_b, ie_f, ie_t, ib_l, fin_i, fin_l, fin_v, fin_z, fin_a, fin_n, ee_b_0, ee_fld0, ee_fld1, ee_fld2, ee_fld3, bi_0, bi_1, bi_2, bi_3, bi_4, bi_5, bi_6, bi_7, bi_8, bi_9, bi_10, bl_20, bl_21, bl_22, bl_23, bl_24, bl_25, bl_26, bl_48, bl_49, un_0, un_1, un_2, un_3, if_true, if_false, ite_true, ite_false, Bool.false_eq_true, Bool.not_eq_false, decide_not, Bool.not_not, reduceCtorEq, st_i, st_l, st_r, st_n, ee_noL, ee_noL.eq_1, List.length_cons, List.length_nil, Nat.reduceAdd, Nat.reduceLT, Nat.zero_add, and_true, true_and, and_self, fin_ite, pu_0, pu_1, pu_3, sto_0, el_0, Bool.not_eq_true, decide_eq_false_iff_not, Bool.decide_eq_true, Bool.decide_eq_false, decide_true, decide_false, Bool.not_true, Bool.not_false, Bool.and_self, Bool.and_true, Bool.and_false, Bool.true_and, Bool.false_and, Bool.or_true, Bool.or_false, Bool.true_or, Bool.false_or, if_true, if_false, Bool.false_eq_true])
      (by
        intro s hi2 hc
        simp only [decide_eq_true_eq] at hc
        show s.1 + 1 ≤ 1024
        omega)
      (by
        intro s hi2 hc
        simp only [decide_eq_true_eq] at hc
        show 1024 - (s.1 + 1) < 1024 - s.1
        omega)
      1100 (0, 0) (Nat.zero_le _) (Nat.le_of_ble_eq_true rfl)
    rw [show (Int32.ofNat ((0, 0) : Nat × Nat).2) = 0 from rfl] at hl
    rw [hl.1]
    have e0 : (lp (fun s => decide (s.1 ≤ 1023)) (cb_n (fun p => rT (tk n) p && bears (Int32.ofNat p) a b c e)) 1100 (0, 0)).2 = cnt (fun p => bears (Int32.ofNat p) a b c e) (lowN (tI (Int32.ofNat n))) (highN (tI (Int32.ofNat n)) + 1 - lowN (tI (Int32.ofNat n))) := cnt_m n hn _
    simp only [e0, bd_300, k_0, k_1, k_1023, k_4294967295, nz_1, nz_1023, v_bin, v_call, v_cmp, v_cons, v_int, v_loc, v_nil, v_not, v_tern, v_z, w_if, w_inc, w_ret, w_seq, w_set, List.getElem?_cons_zero, List.getElem?_cons_succ, List.set_cons_zero, List.set_cons_succ, ee_cmp0, ee_cmp1, ee_cmp2, ee_cmp3, ee_cmp4, ee_cmp5, ee_cmpL0, ee_cmpL1, ee_cmpL2, ee_cmpL3, ee_cmpL4, ee_cmpL5, ee_tru_eb, decide_eq_true_eq, ib_i, ie_b, ie_f, ie_t, ib_l, fin_i, fin_l, fin_v, fin_z, fin_a, fin_n, ee_b_0, ee_fld0, ee_fld1, ee_fld2, ee_fld3, bi_0, bi_1, bi_2, bi_3, bi_4, bi_5, bi_6, bi_7, bi_8, bi_9, bi_10, bl_20, bl_21, bl_22, bl_23, bl_24, bl_25, bl_26, bl_48, bl_49, un_0, un_1, un_2, un_3, if_true, if_false, ite_true, ite_false, Bool.false_eq_true, Bool.not_eq_false, decide_not, Bool.not_not, reduceCtorEq, st_i, st_l, st_r, st_n, ee_noL, ee_noL.eq_1, List.length_cons, List.length_nil, Nat.reduceAdd, Nat.reduceLT, Nat.zero_add, and_true, true_and, and_self, fin_ite, pu_0, pu_1, pu_3, sto_0, el_0, Bool.not_eq_true, decide_eq_false_iff_not, Bool.decide_eq_true, Bool.decide_eq_false, decide_true, decide_false, Bool.not_true, Bool.not_false, Bool.and_self, Bool.and_true, Bool.and_false, Bool.true_and, Bool.false_and, Bool.or_true, Bool.or_false, Bool.true_or, Bool.false_or, if_true, if_false, Bool.false_eq_true]
end FJ
