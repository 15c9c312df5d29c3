section SV
variable {P : Nat → Nat → List Value → ee_W → Option (List Value × ee_W)} {d : Nat} {w : ee_W}
theorem j_s (n : Nat) : Int32.ofNat n + 1 = Int32.ofNat (n + 1) := (Int32.ofNat_add n 1).symm
theorem j_a (m n : Nat) : Int32.ofNat m + Int32.ofNat n = Int32.ofNat (m + n) := (Int32.ofNat_add m n).symm
theorem j_lt {a b : Nat} (ha : a < 2147483648) (hb : b < 2147483648) : (Int32.ofNat a < Int32.ofNat b) ↔ a < b := by
  rw [i32_lt, nI_t ha, nI_t hb]; omega
theorem j_le {a b : Nat} (ha : a < 2147483648) (hb : b < 2147483648) : (Int32.ofNat a ≤ Int32.ofNat b) ↔ a ≤ b := by
  rw [i32_le, nI_t ha, nI_t hb]; omega
/-- the most speed that stops in time: the reference's -/
def mcurve (far pull : Int32) : Nat := tn (fun s => decide (pway (Int32.ofNat s) pull ≤ far)) 64 0
theorem r_curveOf (hd : 2 ≤ d) (far pull : Int32) (hp : 1 ≤ pull.toInt ∧ pull.toInt ≤ 9) : ee_run ee_B P d 258 [.int far, .int pull] w = some ([.int (Int32.ofNat (mcurve far pull))], w) := by
  obtain ⟨d, rfl⟩ : ∃ k, d = k + 1 := ⟨d - 1, by omega⟩
  have hd1 : 1 ≤ d := by omega
  rw [rn_258]
  simp only [w_while, bd_258, k_0, k_1, k_64, nz_1, nz_64, v_and, v_bin, v_call, v_cmp, v_cons, v_int, v_loc, v_nil, w_inc, w_ret, w_seq, w_set, List.getElem?_cons_zero, List.getElem?_cons_succ, List.set_cons_zero, List.set_cons_succ, ee_cmp0, ee_cmp1, ee_cmp2, ee_cmp3, ee_cmp4, ee_cmp5, ee_cmpL0, ee_cmpL1, ee_cmpL2, ee_cmpL3, ee_cmpL4, ee_cmpL5, ee_tru_eb, decide_eq_true_eq, ib_i, ie_b, ie_f, ie_t, ib_l, fin_i, fin_l, fin_v, fin_z, fin_a, fin_n, ee_b_0, ee_fld0, ee_fld1, ee_fld2, ee_fld3, bi_0, bi_1, bi_2, bi_3, bi_4, bi_5, bi_6, bi_7, bi_8, bi_9, bi_10, bl_20, bl_21, bl_22, bl_23, bl_24, bl_25, bl_26, bl_48, bl_49, un_0, un_1, un_2, un_3, if_true, if_false, ite_true, ite_false, Bool.false_eq_true, Bool.not_eq_false, decide_not, Bool.not_not, reduceCtorEq, st_i, st_l, st_r, st_n, ee_noL, ee_noL.eq_1, List.length_cons, List.length_nil, Nat.reduceAdd, Nat.reduceLT, Nat.zero_add, and_true, true_and, and_self, fin_ite, pu_0, pu_1, pu_3, sto_0, el_0, Bool.not_eq_true, decide_eq_false_iff_not, Bool.decide_eq_true, Bool.decide_eq_false]
  have h := ee_wh_lp (x := ee_ev es_sh es_rf (ee_run ee_B P d) (n_and (n_cmp 2 (n_loc 2 0) (n_int 64)) (n_cmp 5 (n_call 259 (n_cons (n_bin 0 (n_loc 2 0) (n_int 1)) (n_cons (n_loc 1 0) n_nil))) (n_loc 0 0)))) (b := ee_evS es_sh es_rf (ee_run ee_B P d) (s_inc 2 1))
    (fun s : Nat => ([some (.int far), some (.int pull), some (.int (Int32.ofNat s))], w)) (fun s => decide (s < 64) && decide (pway (Int32.ofNat (s + 1)) pull ≤ far)) (fun s => s + 1) (fun s => s ≤ 64) (fun s => 64 - s)
    (by
      intro s hi
      have hi : s ≤ 64 := hi
      have hw := r_wayOf (P := P) (w := w) hd1 (Int32.ofNat (s + 1)) pull hp (by rw [nI_t (by omega)]; omega)
      have h64 : (Int32.ofNat s < 64) ↔ s < 64 := j_lt (b := 64) (by omega) (by omega)
      by_cases h : s < 64
      · simp only [ee_turn, bd_258, k_0, k_1, k_64, nz_1, nz_64, v_and, v_bin, v_call, v_cmp, v_cons, v_int, v_loc, v_nil, w_inc, w_ret, w_seq, w_set, List.getElem?_cons_zero, List.getElem?_cons_succ, List.set_cons_zero, List.set_cons_succ, ee_cmp0, ee_cmp1, ee_cmp2, ee_cmp3, ee_cmp4, ee_cmp5, ee_cmpL0, ee_cmpL1, ee_cmpL2, ee_cmpL3, ee_cmpL4, ee_cmpL5, ee_tru_eb, decide_eq_true_eq, ib_i, ie_b, ie_f, ie_t, ib_l, fin_i, fin_l, fin_v, fin_z, fin_a, fin_n, ee_b_0, ee_fld0, ee_fld1, ee_fld2, ee_fld3, bi_0, bi_1, bi_2, bi_3, bi_4, bi_5, bi_6, bi_7, bi_8, bi_9, bi_10, bl_20, bl_21, bl_22, bl_23, bl_24, bl_25, bl_26, bl_48, bl_49, un_0, un_1, un_2, un_3, if_true, if_false, ite_true, ite_false, Bool.false_eq_true, Bool.not_eq_false, decide_not, Bool.not_not, reduceCtorEq, st_i, st_l, st_r, st_n, ee_noL, ee_noL.eq_1, List.length_cons, List.length_nil, Nat.reduceAdd, Nat.reduceLT, Nat.zero_add, and_true, true_and, and_self, fin_ite, pu_0, pu_1, pu_3, sto_0, el_0, Bool.not_eq_true, decide_eq_false_iff_not, Bool.decide_eq_true, Bool.decide_eq_false, j_s, hw, h64, h, decide_true, Bool.true_and]
        by_cases h2 : pway (Int32.ofNat (s + 1)) pull ≤ far <;> simp only [h2, decide_true, decide_false, if_true, if_false, Bool.false_eq_true]
      · simp only [ee_turn, bd_258, k_0, k_1, k_64, nz_1, nz_64, v_and, v_bin, v_call, v_cmp, v_cons, v_int, v_loc, v_nil, w_inc, w_ret, w_seq, w_set, List.getElem?_cons_zero, List.getElem?_cons_succ, List.set_cons_zero, List.set_cons_succ, ee_cmp0, ee_cmp1, ee_cmp2, ee_cmp3, ee_cmp4, ee_cmp5, ee_cmpL0, ee_cmpL1, ee_cmpL2, ee_cmpL3, ee_cmpL4, ee_cmpL5, ee_tru_eb, decide_eq_true_eq, ib_i, ie_b, ie_f, ie_t, ib_l, fin_i, fin_l, fin_v, fin_z, fin_a, fin_n, ee_b_0, ee_fld0, ee_fld1, ee_fld2, ee_fld3, bi_0, bi_1, bi_2, bi_3, bi_4, bi_5, bi_6, bi_7, bi_8, bi_9, bi_10, bl_20, bl_21, bl_22, bl_23, bl_24, bl_25, bl_26, bl_48, bl_49, un_0, un_1, un_2, un_3, if_true, if_false, ite_true, ite_false, Bool.false_eq_true, Bool.not_eq_false, decide_not, Bool.not_not, reduceCtorEq, st_i, st_l, st_r, st_n, ee_noL, ee_noL.eq_1, List.length_cons, List.length_nil, Nat.reduceAdd, Nat.reduceLT, Nat.zero_add, and_true, true_and, and_self, fin_ite, pu_0, pu_1, pu_3, sto_0, el_0, Bool.not_eq_true, decide_eq_false_iff_not, Bool.decide_eq_true, Bool.decide_eq_false, j_s, h64, h, decide_false, Bool.false_and])
    (by
      intro s hi hc
      simp only [Bool.and_eq_true, decide_eq_true_eq] at hc
      show s + 1 ≤ 64
      omega)
    (by
      intro s hi hc
      simp only [Bool.and_eq_true, decide_eq_true_eq] at hc
      show 64 - (s + 1) < 64 - s
      omega)
    64 0 (Nat.zero_le _) (Nat.le_refl _)
  rw [show (some (Value.int (Int32.ofNat 0))) = some (Value.int 0) from rfl] at h
  rw [h.1]
  simp only [bd_258, k_0, k_1, k_64, nz_1, nz_64, v_and, v_bin, v_call, v_cmp, v_cons, v_int, v_loc, v_nil, w_inc, w_ret, w_seq, w_set, List.getElem?_cons_zero, List.getElem?_cons_succ, List.set_cons_zero, List.set_cons_succ, ee_cmp0, ee_cmp1, ee_cmp2, ee_cmp3, ee_cmp4, ee_cmp5, ee_cmpL0, ee_cmpL1, ee_cmpL2, ee_cmpL3, ee_cmpL4, ee_cmpL5, ee_tru_eb, decide_eq_true_eq, ib_i, ie_b, ie_f, ie_t, ib_l, fin_i, fin_l, fin_v, fin_z, fin_a, fin_n, ee_b_0, ee_fld0, ee_fld1, ee_fld2, ee_fld3, bi_0, bi_1, bi_2, bi_3, bi_4, bi_5, bi_6, bi_7, bi_8, bi_9, bi_10, bl_20, bl_21, bl_22, bl_23, bl_24, bl_25, bl_26, bl_48, bl_49, un_0, un_1, un_2, un_3, if_true, if_false, ite_true, ite_false, Bool.false_eq_true, Bool.not_eq_false, decide_not, Bool.not_not, reduceCtorEq, st_i, st_l, st_r, st_n, ee_noL, ee_noL.eq_1, List.length_cons, List.length_nil, Nat.reduceAdd, Nat.reduceLT, Nat.zero_add, and_true, true_and, and_self, fin_ite, pu_0, pu_1, pu_3, sto_0, el_0, Bool.not_eq_true, decide_eq_false_iff_not, Bool.decide_eq_true, Bool.decide_eq_false]
  rfl
/-- the most speed that stops in time: the class's -/
def cfar (far : Int32) : Int32 := if (if far < 0 then -far else far) ≤ 1023 then (if far < 0 then -far else far) else 1023
def ccurve (far pull : Int32) : Nat := bs (fun s => decide (cway (Int32.ofNat s) pull ≤ cfar far))
theorem j_half : ∀ s, s ≤ 64 → Int32.ofNat s / 2 = Int32.ofNat (s / 2) := by decide +kernel
theorem r_speedOver (hd : 2 ≤ d) (far pull : Int32) : ee_run ee_B P d 91 [.int far, .int pull] w = some ([.int (if far < 0 then -Int32.ofNat (ccurve far pull) else Int32.ofNat (ccurve far pull))], w) := by
  obtain ⟨d, rfl⟩ : ∃ k, d = k + 1 := ⟨d - 1, by omega⟩
  have hd1 : 1 ≤ d := by omega
  rw [rn_91]
  have e1 := r_abs (P := P) (w := w) hd1 far
  have e2 := r_min (P := P) (w := w) hd1 (if far < 0 then -far else far) 1023
  have e3 : (if (if far < 0 then -far else far) ≤ 1023 then (if far < 0 then -far else far) else 1023) = cfar far := rfl
  rw [e3] at e2
  simp only [w_while, e1, e2, bd_91, k_0, k_1023, k_2, k_64, nz_1023, nz_2, nz_64, v_and, v_bin, v_call, v_cmp, v_cons, v_int, v_loc, v_nil, v_tern, v_un, v_z, w_if, w_ret, w_seq, w_set, w_skip, List.getElem?_cons_zero, List.getElem?_cons_succ, List.set_cons_zero, List.set_cons_succ, ee_cmp0, ee_cmp1, ee_cmp2, ee_cmp3, ee_cmp4, ee_cmp5, ee_cmpL0, ee_cmpL1, ee_cmpL2, ee_cmpL3, ee_cmpL4, ee_cmpL5, ee_tru_eb, decide_eq_true_eq, ib_i, ie_b, ie_f, ie_t, ib_l, fin_i, fin_l, fin_v, fin_z, fin_a, fin_n, ee_b_0, ee_fld0, ee_fld1, ee_fld2, ee_fld3, bi_0, bi_1, bi_2, bi_3, bi_4, bi_5, bi_6, bi_7, bi_8, bi_9, bi_10, bl_20, bl_21, bl_22, bl_23, bl_24, bl_25, bl_26, bl_48, bl_49, un_0, un_1, un_2, un_3, if_true, if_false, ite_true, ite_false, Bool.false_eq_true, Bool.not_eq_false, decide_not, Bool.not_not, reduceCtorEq, st_i, st_l, st_r, st_n, ee_noL, ee_noL.eq_1, List.length_cons, List.length_nil, Nat.reduceAdd, Nat.reduceLT, Nat.zero_add, and_true, true_and, and_self, fin_ite, pu_0, pu_1, pu_3, sto_0, el_0, Bool.not_eq_true, decide_eq_false_iff_not, Bool.decide_eq_true, Bool.decide_eq_false]
  have h := ee_wh_lp (x := ee_ev es_sh es_rf (ee_run ee_B P d) (n_z 4 (n_loc 4 0))) (b := ee_evS es_sh es_rf (ee_run ee_B P d) (s_seq 48 (s_if 43 48 (n_and (n_cmp 5 (n_bin 0 (n_loc 3 0) (n_loc 4 0)) (n_int 64)) (n_cmp 5 (n_call 93 (n_cons (n_bin 0 (n_loc 3 0) (n_loc 4 0)) (n_cons (n_loc 1 0) n_nil))) (n_loc 2 0))) (s_set 3 0 (n_bin 0 (n_loc 3 0) (n_loc 4 0))) s_skip) (s_set 4 0 (n_bin 3 (n_loc 4 0) (n_int 2)))))
    (fun s : Nat × Nat => ([some (.int far), some (.int pull), some (.int (cfar far)), some (.int (Int32.ofNat s.1)), some (.int (Int32.ofNat s.2))], w)) (fun s => decide (0 < s.2)) (bs_n (fun s => decide (cway (Int32.ofNat s) pull ≤ cfar far))) (fun s => s.1 ≤ 64 ∧ s.2 ≤ 64) (fun s => s.2)
    (by
      intro s hi
      have hi : s.1 ≤ 64 ∧ s.2 ≤ 64 := hi
      have hw := r_wayToStop (P := P) (w := w) hd1 (Int32.ofNat (s.1 + s.2)) pull
      have h64 : (Int32.ofNat (s.1 + s.2) ≤ 64) ↔ s.1 + s.2 ≤ 64 := j_le (b := 64) (by omega) (by omega)
      have h0 : (0 < Int32.ofNat s.2) ↔ 0 < s.2 := j_lt (a := 0) (by omega) (by omega)
      by_cases h : 0 < s.2
      · by_cases h1 : s.1 + s.2 ≤ 64
        · by_cases h2 : cway (Int32.ofNat (s.1 + s.2)) pull ≤ cfar far
          · simp only [ee_turn, bd_91, k_0, k_1023, k_2, k_64, nz_1023, nz_2, nz_64, v_and, v_bin, v_call, v_cmp, v_cons, v_int, v_loc, v_nil, v_tern, v_un, v_z, w_if, w_ret, w_seq, w_set, w_skip, List.getElem?_cons_zero, List.getElem?_cons_succ, List.set_cons_zero, List.set_cons_succ, ee_cmp0, ee_cmp1, ee_cmp2, ee_cmp3, ee_cmp4, ee_cmp5, ee_cmpL0, ee_cmpL1, ee_cmpL2, ee_cmpL3, ee_cmpL4, ee_cmpL5, ee_tru_eb, decide_eq_true_eq, ib_i, ie_b, ie_f, ie_t, ib_l, fin_i, fin_l, fin_v, fin_z, fin_a, fin_n, ee_b_0, ee_fld0, ee_fld1, ee_fld2, ee_fld3, bi_0, bi_1, bi_2, bi_3, bi_4, bi_5, bi_6, bi_7, bi_8, bi_9, bi_10, bl_20, bl_21, bl_22, bl_23, bl_24, bl_25, bl_26, bl_48, bl_49, un_0, un_1, un_2, un_3, if_true, if_false, ite_true, ite_false, Bool.false_eq_true, Bool.not_eq_false, decide_not, Bool.not_not, reduceCtorEq, st_i, st_l, st_r, st_n, ee_noL, ee_noL.eq_1, List.length_cons, List.length_nil, Nat.reduceAdd, Nat.reduceLT, Nat.zero_add, and_true, true_and, and_self, fin_ite, pu_0, pu_1, pu_3, sto_0, el_0, Bool.not_eq_true, decide_eq_false_iff_not, Bool.decide_eq_true, Bool.decide_eq_false, bs_n, j_a, hw, h64, h0, h, h1, h2, j_half s.2 hi.2, decide_true, true_and, and_true, if_true]
          · simp only [ee_turn, bd_91, k_0, k_1023, k_2, k_64, nz_1023, nz_2, nz_64, v_and, v_bin, v_call, v_cmp, v_cons, v_int, v_loc, v_nil, v_tern, v_un, v_z, w_if, w_ret, w_seq, w_set, w_skip, List.getElem?_cons_zero, List.getElem?_cons_succ, List.set_cons_zero, List.set_cons_succ, ee_cmp0, ee_cmp1, ee_cmp2, ee_cmp3, ee_cmp4, ee_cmp5, ee_cmpL0, ee_cmpL1, ee_cmpL2, ee_cmpL3, ee_cmpL4, ee_cmpL5, ee_tru_eb, decide_eq_true_eq, ib_i, ie_b, ie_f, ie_t, ib_l, fin_i, fin_l, fin_v, fin_z, fin_a, fin_n, ee_b_0, ee_fld0, ee_fld1, ee_fld2, ee_fld3, bi_0, bi_1, bi_2, bi_3, bi_4, bi_5, bi_6, bi_7, bi_8, bi_9, bi_10, bl_20, bl_21, bl_22, bl_23, bl_24, bl_25, bl_26, bl_48, bl_49, un_0, un_1, un_2, un_3, if_true, if_false, ite_true, ite_false, Bool.false_eq_true, Bool.not_eq_false, decide_not, Bool.not_not, reduceCtorEq, st_i, st_l, st_r, st_n, ee_noL, ee_noL.eq_1, List.length_cons, List.length_nil, Nat.reduceAdd, Nat.reduceLT, Nat.zero_add, and_true, true_and, and_self, fin_ite, pu_0, pu_1, pu_3, sto_0, el_0, Bool.not_eq_true, decide_eq_false_iff_not, Bool.decide_eq_true, Bool.decide_eq_false, bs_n, j_a, hw, h64, h0, h, h1, h2, j_half s.2 hi.2, decide_true, decide_false, true_and, and_true, if_true, if_false, Bool.false_eq_true, and_false]
        · simp only [ee_turn, bd_91, k_0, k_1023, k_2, k_64, nz_1023, nz_2, nz_64, v_and, v_bin, v_call, v_cmp, v_cons, v_int, v_loc, v_nil, v_tern, v_un, v_z, w_if, w_ret, w_seq, w_set, w_skip, List.getElem?_cons_zero, List.getElem?_cons_succ, List.set_cons_zero, List.set_cons_succ, ee_cmp0, ee_cmp1, ee_cmp2, ee_cmp3, ee_cmp4, ee_cmp5, ee_cmpL0, ee_cmpL1, ee_cmpL2, ee_cmpL3, ee_cmpL4, ee_cmpL5, ee_tru_eb, decide_eq_true_eq, ib_i, ie_b, ie_f, ie_t, ib_l, fin_i, fin_l, fin_v, fin_z, fin_a, fin_n, ee_b_0, ee_fld0, ee_fld1, ee_fld2, ee_fld3, bi_0, bi_1, bi_2, bi_3, bi_4, bi_5, bi_6, bi_7, bi_8, bi_9, bi_10, bl_20, bl_21, bl_22, bl_23, bl_24, bl_25, bl_26, bl_48, bl_49, un_0, un_1, un_2, un_3, if_true, if_false, ite_true, ite_false, Bool.false_eq_true, Bool.not_eq_false, decide_not, Bool.not_not, reduceCtorEq, st_i, st_l, st_r, st_n, ee_noL, ee_noL.eq_1, List.length_cons, List.length_nil, Nat.reduceAdd, Nat.reduceLT, Nat.zero_add, and_true, true_and, and_self, fin_ite, pu_0, pu_1, pu_3, sto_0, el_0, Bool.not_eq_true, decide_eq_false_iff_not, Bool.decide_eq_true, Bool.decide_eq_false, bs_n, j_a, hw, h64, h0, h, h1, j_half s.2 hi.2, decide_true, decide_false, true_and, and_true, if_true, if_false, Bool.false_eq_true, and_false, false_and]
      · simp only [ee_turn, bd_91, k_0, k_1023, k_2, k_64, nz_1023, nz_2, nz_64, v_and, v_bin, v_call, v_cmp, v_cons, v_int, v_loc, v_nil, v_tern, v_un, v_z, w_if, w_ret, w_seq, w_set, w_skip, List.getElem?_cons_zero, List.getElem?_cons_succ, List.set_cons_zero, List.set_cons_succ, ee_cmp0, ee_cmp1, ee_cmp2, ee_cmp3, ee_cmp4, ee_cmp5, ee_cmpL0, ee_cmpL1, ee_cmpL2, ee_cmpL3, ee_cmpL4, ee_cmpL5, ee_tru_eb, decide_eq_true_eq, ib_i, ie_b, ie_f, ie_t, ib_l, fin_i, fin_l, fin_v, fin_z, fin_a, fin_n, ee_b_0, ee_fld0, ee_fld1, ee_fld2, ee_fld3, bi_0, bi_1, bi_2, bi_3, bi_4, bi_5, bi_6, bi_7, bi_8, bi_9, bi_10, bl_20, bl_21, bl_22, bl_23, bl_24, bl_25, bl_26, bl_48, bl_49, un_0, un_1, un_2, un_3, if_true, if_false, ite_true, ite_false, Bool.false_eq_true, Bool.not_eq_false, decide_not, Bool.not_not, reduceCtorEq, st_i, st_l, st_r, st_n, ee_noL, ee_noL.eq_1, List.length_cons, List.length_nil, Nat.reduceAdd, Nat.reduceLT, Nat.zero_add, and_true, true_and, and_self, fin_ite, pu_0, pu_1, pu_3, sto_0, el_0, Bool.not_eq_true, decide_eq_false_iff_not, Bool.decide_eq_true, Bool.decide_eq_false, h0, h, decide_false, if_false, Bool.false_eq_true])
    (by
      intro s hi hc
      have hi : s.1 ≤ 64 ∧ s.2 ≤ 64 := hi
      show (if s.1 + s.2 ≤ 64 ∧ _ then s.1 + s.2 else s.1) ≤ 64 ∧ s.2 / 2 ≤ 64
      constructor
      · split <;> omega
      · omega)
    (by
      intro s hi hc
      simp only [decide_eq_true_eq] at hc
      show s.2 / 2 < s.2
      omega)
    64 (0, 64) (by decide) (by decide)
  rw [show (Int32.ofNat ((0, 64) : Nat × Nat).1) = 0 from rfl, show (Int32.ofNat ((0, 64) : Nat × Nat).2) = 64 from rfl] at h
  rw [h.1]
  have hb : (lp (fun s => decide (0 < s.2)) (bs_n (fun s => decide (cway (Int32.ofNat s) pull ≤ cfar far))) 64 (0, 64)).1 = ccurve far pull := rfl
  simp only [hb]
  by_cases h : far < 0 <;> simp only [bd_91, k_0, k_1023, k_2, k_64, nz_1023, nz_2, nz_64, v_and, v_bin, v_call, v_cmp, v_cons, v_int, v_loc, v_nil, v_tern, v_un, v_z, w_if, w_ret, w_seq, w_set, w_skip, List.getElem?_cons_zero, List.getElem?_cons_succ, List.set_cons_zero, List.set_cons_succ, ee_cmp0, ee_cmp1, ee_cmp2, ee_cmp3, ee_cmp4, ee_cmp5, ee_cmpL0, ee_cmpL1, ee_cmpL2, ee_cmpL3, ee_cmpL4, ee_cmpL5, ee_tru_eb, decide_eq_true_eq, ib_i, ie_b, ie_f, ie_t, ib_l, fin_i, fin_l, fin_v, fin_z, fin_a, fin_n, ee_b_0, ee_fld0, ee_fld1, ee_fld2, ee_fld3, bi_0, bi_1, bi_2, bi_3, bi_4, bi_5, bi_6, bi_7, bi_8, bi_9, bi_10, bl_20, bl_21, bl_22, bl_23, bl_24, bl_25, bl_26, bl_48, bl_49, un_0, un_1, un_2, un_3, if_true, if_false, ite_true, ite_false, Bool.false_eq_true, Bool.not_eq_false, decide_not, Bool.not_not, reduceCtorEq, st_i, st_l, st_r, st_n, ee_noL, ee_noL.eq_1, List.length_cons, List.length_nil, Nat.reduceAdd, Nat.reduceLT, Nat.zero_add, and_true, true_and, and_self, fin_ite, pu_0, pu_1, pu_3, sto_0, el_0, Bool.not_eq_true, decide_eq_false_iff_not, Bool.decide_eq_true, Bool.decide_eq_false, h, decide_true, decide_false, if_true, if_false, Bool.false_eq_true]
end SV
