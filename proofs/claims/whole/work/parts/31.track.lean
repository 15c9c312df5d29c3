section TR
variable {P : Nat → Nat → List Value → ee_W → Option (List Value × ee_W)} {d : Nat} {w : ee_W} {h : Nat}
def gcode (a : Int32) : Int32 := a ^^^ (a >>> (1 &&& 31))
def tr_n (c : Int32) (s : Nat × Int32) : Nat × Int32 := (s.1 + 1, s.2 ^^^ (c >>> (Int32.ofNat s.1 &&& 31)))
def ctrack (c : Int32) : Int32 := (lp (fun s => decide (s.1 < 6)) (tr_n c) 6 (1, c)).2
theorem r_trackOf (hd : 1 ≤ d) (c : Int32) : ee_run ee_B P d 117 [.int c] w = some ([.int (ctrack c)], w) := by
  obtain ⟨d, rfl⟩ : ∃ k, d = k + 1 := ⟨d - 1, by omega⟩
  rw [rn_117]
  simp only [w_while, bd_117, k_1, k_6, nz_1, nz_6, v_bin, v_cmp, v_int, v_loc, w_inc, w_ret, w_seq, w_set, List.getElem?_cons_zero, List.getElem?_cons_succ, List.set_cons_zero, List.set_cons_succ, ee_cmp0, ee_cmp1, ee_cmp2, ee_cmp3, ee_cmp4, ee_cmp5, ee_cmpL0, ee_cmpL1, ee_cmpL2, ee_cmpL3, ee_cmpL4, ee_cmpL5, ee_tru_eb, decide_eq_true_eq, ib_i, ie_b, ie_f, ie_t, ib_l, fin_i, fin_l, fin_v, fin_z, fin_a, fin_n, ee_b_0, ee_fld0, ee_fld1, ee_fld2, ee_fld3, bi_0, bi_1, bi_2, bi_3, bi_4, bi_5, bi_6, bi_7, bi_8, bi_9, bi_10, bl_20, bl_21, bl_22, bl_23, bl_24, bl_25, bl_26, bl_48, bl_49, un_0, un_1, un_2, un_3, if_true, if_false, ite_true, ite_false, Bool.false_eq_true, Bool.not_eq_false, decide_not, Bool.not_not, reduceCtorEq, st_i, st_l, st_r, st_n, ee_noL, ee_noL.eq_1, List.length_cons, List.length_nil, Nat.reduceAdd, Nat.reduceLT, Nat.zero_add, and_true, true_and, and_self, fin_ite, pu_0, pu_1, pu_3, sto_0, el_0, Bool.not_eq_true, decide_eq_false_iff_not, Bool.decide_eq_true, Bool.decide_eq_false, decide_true, decide_false, Bool.not_true, Bool.not_false, Bool.and_self, Bool.and_true, Bool.and_false, Bool.true_and, Bool.false_and, Bool.or_true, Bool.or_false, Bool.true_or, Bool.false_or, if_true, if_false, Bool.false_eq_true]
  have hl := ee_wh_lp (x := ee_ev es_sh es_rf (ee_run ee_B P d) (n_cmp 2 (n_loc 2 0) (n_int 6))) (b := ee_evS es_sh es_rf (ee_run ee_B P d) (s_seq 16 (s_set 1 0 (n_bin 7 (n_loc 1 0) (n_bin 9 (n_loc 0 0) (n_loc 2 0)))) (s_inc 2 1)))
    (fun s : Nat × Int32 => ([some (.int c), some (.int s.2), some (.int (Int32.ofNat s.1))], w)) (fun s => decide (s.1 < 6)) (tr_n c) (fun s => s.1 ≤ 6) (fun s => 6 - s.1)
    (by
      intro s hi
      have hi : s.1 ≤ 6 := hi
      have h6 : (Int32.ofNat s.1 < 6) ↔ s.1 < 6 := j_lt (b := 6) (by omega) (by omega)
      by_cases q : s.1 < 6 <;> simp only [ee_turn, tr_n, h6, q, j_s, bd_117, k_1, k_6, nz_1, nz_6, v_bin, v_cmp, v_int, v_loc, w_inc, w_ret, w_seq, w_set, List.getElem?_cons_zero, List.getElem?_cons_succ, List.set_cons_zero, List.set_cons_succ, ee_cmp0, ee_cmp1, ee_cmp2, ee_cmp3, ee_cmp4, ee_cmp5, ee_cmpL0, ee_cmpL1, ee_cmpL2, ee_cmpL3, ee_cmpL4, ee_cmpL5, ee_tru_eb, decide_eq_true_eq, ib_i, ie_b, ie_f, ie_t, ib_l, fin_i, fin_l, fin_v, fin_z, fin_a, fin_n, ee_b_0, ee_fld0, ee_fld1, ee_fld2, ee_fld3, bi_0, bi_1, bi_2, bi_3, bi_4, bi_5, bi_6, bi_7, bi_8, bi_9, bi_10, bl_20, bl_21, bl_22, bl_23, bl_24, bl_25, bl_26, bl_48, bl_49, un_0, un_1, un_2, un_3, if_true, if_false, ite_true, ite_false, Bool.false_eq_true, Bool.not_eq_false, decide_not, Bool.not_not, reduceCtorEq, st_i, st_l, st_r, st_n, ee_noL, ee_noL.eq_1, List.length_cons, List.length_nil, Nat.reduceAdd, Nat.reduceLT, Nat.zero_add, and_true, true_and, and_self, fin_ite, pu_0, pu_1, pu_3, sto_0, el_0, Bool.not_eq_true, decide_eq_false_iff_not, Bool.decide_eq_true, Bool.decide_eq_false, decide_true, decide_false, Bool.not_true, Bool.not_false, Bool.and_self, Bool.and_true, Bool.and_false, Bool.true_and, Bool.false_and, Bool.or_true, Bool.or_false, Bool.true_or, Bool.false_or, if_true, if_false, Bool.false_eq_true])
    (by
      intro s hi hc
      simp only [decide_eq_true_eq] at hc
      show s.1 + 1 ≤ 6
      omega)
    (by
      intro s hi hc
      simp only [decide_eq_true_eq] at hc
      show 6 - (s.1 + 1) < 6 - s.1
      omega)
    6 (1, c) (Nat.le_of_ble_eq_true rfl) (Nat.le_of_ble_eq_true rfl)
  rw [show (Int32.ofNat ((1, c) : Nat × Int32).1) = 1 from rfl] at hl
  rw [hl.1]
  simp only [bd_117, k_1, k_6, nz_1, nz_6, v_bin, v_cmp, v_int, v_loc, w_inc, w_ret, w_seq, w_set, List.getElem?_cons_zero, List.getElem?_cons_succ, List.set_cons_zero, List.set_cons_succ, ee_cmp0, ee_cmp1, ee_cmp2, ee_cmp3, ee_cmp4, ee_cmp5, ee_cmpL0, ee_cmpL1, ee_cmpL2, ee_cmpL3, ee_cmpL4, ee_cmpL5, ee_tru_eb, decide_eq_true_eq, ib_i, ie_b, ie_f, ie_t, ib_l, fin_i, fin_l, fin_v, fin_z, fin_a, fin_n, ee_b_0, ee_fld0, ee_fld1, ee_fld2, ee_fld3, bi_0, bi_1, bi_2, bi_3, bi_4, bi_5, bi_6, bi_7, bi_8, bi_9, bi_10, bl_20, bl_21, bl_22, bl_23, bl_24, bl_25, bl_26, bl_48, bl_49, un_0, un_1, un_2, un_3, if_true, if_false, ite_true, ite_false, Bool.false_eq_true, Bool.not_eq_false, decide_not, Bool.not_not, reduceCtorEq, st_i, st_l, st_r, st_n, ee_noL, ee_noL.eq_1, List.length_cons, List.length_nil, Nat.reduceAdd, Nat.reduceLT, Nat.zero_add, and_true, true_and, and_self, fin_ite, pu_0, pu_1, pu_3, sto_0, el_0, Bool.not_eq_true, decide_eq_false_iff_not, Bool.decide_eq_true, Bool.decide_eq_false, decide_true, decide_false, Bool.not_true, Bool.not_false, Bool.and_self, Bool.and_true, Bool.and_false, Bool.true_and, Bool.false_and, Bool.or_true, Bool.or_false, Bool.true_or, Bool.false_or, if_true, if_false, Bool.false_eq_true]
  rfl
def gfar (n k : Nat) : Bool := !decide (gcode (Int32.ofNat k) = Int32.ofNat n)
theorem tr_all : ∀ n, n < 64 → gcode (ctrack (Int32.ofNat n)) = Int32.ofNat n ∧ Int32.ofNat (lp (gfar n) (fun k => k + 1) 64 0) = ctrack (Int32.ofNat n) ∧ ctrack (Int32.ofNat n) = Int32.ofNat (ctrack (Int32.ofNat n)).toInt.toNat ∧ (ctrack (Int32.ofNat n)).toInt.toNat < 64 := by decide +kernel
def x_track (c : Int32) : Int32 := if (decide (0 ≤ c) && decide (c < 64)) = true then ctrack c else -1
theorem i63 (c : Int32) : decide (c ≤ 63) = decide (c < 64) := by
  apply decide_eq_decide.2
  rw [i32_le, i32_lt]
  show c.toInt ≤ 63 ↔ c.toInt < 64
  omega
theorem of64 {c : Int32} (h : (decide (0 ≤ c) && decide (c < 64)) = true) : ∃ n, n < 64 ∧ c = Int32.ofNat n := by
  rw [Bool.and_eq_true, decide_eq_true_eq, decide_eq_true_eq, i32_le, i32_lt] at h
  have h1 : 0 ≤ c.toInt := h.1
  have h2 : c.toInt < 64 := h.2
  obtain ⟨n, q1, q2, q3⟩ := j_of h1
  exact ⟨n, by omega, q2⟩
theorem q_track (hd : 2 ≤ d) (hh : es_sh h = (10, 0)) (c : Int32) : ee_run ee_B P d 116 [.ref h, .int c] w = some ([.int (x_track c)], w) := by
  obtain ⟨d, rfl⟩ : ∃ k, d = k + 1 := ⟨d - 1, by omega⟩
  have hd1 : 1 ≤ d := by omega
  rw [rn_116 hh]
  unfold x_track
  cases h1 : (decide (0 ≤ c) && decide (c < 64)) <;> simp only [r_isTrack hd1, r_trackOf hd1, h1, bd_116, k_4294967295, v_call, v_cons, v_int, v_loc, v_nil, v_tern, v_z, w_ret, List.getElem?_cons_zero, List.getElem?_cons_succ, List.set_cons_zero, List.set_cons_succ, ee_cmp0, ee_cmp1, ee_cmp2, ee_cmp3, ee_cmp4, ee_cmp5, ee_cmpL0, ee_cmpL1, ee_cmpL2, ee_cmpL3, ee_cmpL4, ee_cmpL5, ee_tru_eb, decide_eq_true_eq, ib_i, ie_b, ie_f, ie_t, ib_l, fin_i, fin_l, fin_v, fin_z, fin_a, fin_n, ee_b_0, ee_fld0, ee_fld1, ee_fld2, ee_fld3, bi_0, bi_1, bi_2, bi_3, bi_4, bi_5, bi_6, bi_7, bi_8, bi_9, bi_10, bl_20, bl_21, bl_22, bl_23, bl_24, bl_25, bl_26, bl_48, bl_49, un_0, un_1, un_2, un_3, if_true, if_false, ite_true, ite_false, Bool.false_eq_true, Bool.not_eq_false, decide_not, Bool.not_not, reduceCtorEq, st_i, st_l, st_r, st_n, ee_noL, ee_noL.eq_1, List.length_cons, List.length_nil, Nat.reduceAdd, Nat.reduceLT, Nat.zero_add, and_true, true_and, and_self, fin_ite, pu_0, pu_1, pu_3, sto_0, el_0, Bool.not_eq_true, decide_eq_false_iff_not, Bool.decide_eq_true, Bool.decide_eq_false, decide_true, decide_false, Bool.not_true, Bool.not_false, Bool.and_self, Bool.and_true, Bool.and_false, Bool.true_and, Bool.false_and, Bool.or_true, Bool.or_false, Bool.true_or, Bool.false_or, if_true, if_false, Bool.false_eq_true]
theorem m_track (hd : 3 ≤ d) (hh : es_sh h = (18, 0)) (c : Int32) : ee_run ee_B P d 287 [.ref h, .int c] w = some ([.int (x_track c)], w) := by
  obtain ⟨d, rfl⟩ : ∃ k, d = k + 1 := ⟨d - 1, by omega⟩
  have hd1 : 1 ≤ d := by omega
  have hd2 : 2 ≤ d := by omega
  rw [rn_287 hh]
  unfold x_track
  cases h1 : (decide (0 ≤ c) && decide (c < 64))
  · simp only [r_isTrackM hd2, i63, h1, bd_287, k_0, k_4294967295, v_call, v_cmp, v_cons, v_int, v_loc, v_nil, v_not, v_z, w_if, w_inc, w_ret, w_seq, w_set, List.getElem?_cons_zero, List.getElem?_cons_succ, List.set_cons_zero, List.set_cons_succ, ee_cmp0, ee_cmp1, ee_cmp2, ee_cmp3, ee_cmp4, ee_cmp5, ee_cmpL0, ee_cmpL1, ee_cmpL2, ee_cmpL3, ee_cmpL4, ee_cmpL5, ee_tru_eb, decide_eq_true_eq, ib_i, ie_b, ie_f, ie_t, ib_l, fin_i, fin_l, fin_v, fin_z, fin_a, fin_n, ee_b_0, ee_fld0, ee_fld1, ee_fld2, ee_fld3, bi_0, bi_1, bi_2, bi_3, bi_4, bi_5, bi_6, bi_7, bi_8, bi_9, bi_10, bl_20, bl_21, bl_22, bl_23, bl_24, bl_25, bl_26, bl_48, bl_49, un_0, un_1, un_2, un_3, if_true, if_false, ite_true, ite_false, Bool.false_eq_true, Bool.not_eq_false, decide_not, Bool.not_not, reduceCtorEq, st_i, st_l, st_r, st_n, ee_noL, ee_noL.eq_1, List.length_cons, List.length_nil, Nat.reduceAdd, Nat.reduceLT, Nat.zero_add, and_true, true_and, and_self, fin_ite, pu_0, pu_1, pu_3, sto_0, el_0, Bool.not_eq_true, decide_eq_false_iff_not, Bool.decide_eq_true, Bool.decide_eq_false, decide_true, decide_false, Bool.not_true, Bool.not_false, Bool.and_self, Bool.and_true, Bool.and_false, Bool.true_and, Bool.false_and, Bool.or_true, Bool.or_false, Bool.true_or, Bool.false_or, if_true, if_false, Bool.false_eq_true]
  · obtain ⟨n, hn, rfl⟩ := of64 h1
    obtain ⟨t1, t2, t3, t4⟩ := tr_all n hn
    simp only [r_isTrackM hd2, i63, h1, w_while, bd_287, k_0, k_4294967295, v_call, v_cmp, v_cons, v_int, v_loc, v_nil, v_not, v_z, w_if, w_inc, w_ret, w_seq, w_set, List.getElem?_cons_zero, List.getElem?_cons_succ, List.set_cons_zero, List.set_cons_succ, ee_cmp0, ee_cmp1, ee_cmp2, ee_cmp3, ee_cmp4, ee_cmp5, ee_cmpL0, ee_cmpL1, ee_cmpL2, ee_cmpL3, ee_cmpL4, ee_cmpL5, ee_tru_eb, decide_eq_true_eq, ib_i, ie_b, ie_f, ie_t, ib_l, fin_i, fin_l, fin_v, fin_z, fin_a, fin_n, ee_b_0, ee_fld0, ee_fld1, ee_fld2, ee_fld3, bi_0, bi_1, bi_2, bi_3, bi_4, bi_5, bi_6, bi_7, bi_8, bi_9, bi_10, bl_20, bl_21, bl_22, bl_23, bl_24, bl_25, bl_26, bl_48, bl_49, un_0, un_1, un_2, un_3, if_true, if_false, ite_true, ite_false, Bool.false_eq_true, Bool.not_eq_false, decide_not, Bool.not_not, reduceCtorEq, st_i, st_l, st_r, st_n, ee_noL, ee_noL.eq_1, List.length_cons, List.length_nil, Nat.reduceAdd, Nat.reduceLT, Nat.zero_add, and_true, true_and, and_self, fin_ite, pu_0, pu_1, pu_3, sto_0, el_0, Bool.not_eq_true, decide_eq_false_iff_not, Bool.decide_eq_true, Bool.decide_eq_false, decide_true, decide_false, Bool.not_true, Bool.not_false, Bool.and_self, Bool.and_true, Bool.and_false, Bool.true_and, Bool.false_and, Bool.or_true, Bool.or_false, Bool.true_or, Bool.false_or, if_true, if_false, Bool.false_eq_true]
    have hl := ee_wh_lp (x := ee_ev es_sh es_rf (ee_run ee_B P d) (n_cmp 1 (n_call 286 (n_cons (n_loc 2 0) n_nil)) (n_loc 1 0))) (b := ee_evS es_sh es_rf (ee_run ee_B P d) (s_inc 2 1))
      (fun k : Nat => ([some (.ref h), some (.int (Int32.ofNat n)), some (.int (Int32.ofNat k))], w)) (gfar n) (fun k => k + 1) (fun k => k ≤ (ctrack (Int32.ofNat n)).toInt.toNat) (fun k => (ctrack (Int32.ofNat n)).toInt.toNat - k)
      (by
        intro k hi
        by_cases q : gcode (Int32.ofNat k) = Int32.ofNat n
        · have q2 := q
          unfold gcode at q2
          simp only [ee_turn, gfar, r_codeOfM hd1, q, q2, bd_287, k_0, k_4294967295, v_call, v_cmp, v_cons, v_int, v_loc, v_nil, v_not, v_z, w_if, w_inc, w_ret, w_seq, w_set, List.getElem?_cons_zero, List.getElem?_cons_succ, List.set_cons_zero, List.set_cons_succ, ee_cmp0, ee_cmp1, ee_cmp2, ee_cmp3, ee_cmp4, ee_cmp5, ee_cmpL0, ee_cmpL1, ee_cmpL2, ee_cmpL3, ee_cmpL4, ee_cmpL5, ee_tru_eb, decide_eq_true_eq, ib_i, ie_b, ie_f, ie_t, ib_l, fin_i, fin_l, fin_v, fin_z, fin_a, fin_n, ee_b_0, ee_fld0, ee_fld1, ee_fld2, ee_fld3, bi_0, bi_1, bi_2, bi_3, bi_4, bi_5, bi_6, bi_7, bi_8, bi_9, bi_10, bl_20, bl_21, bl_22, bl_23, bl_24, bl_25, bl_26, bl_48, bl_49, un_0, un_1, un_2, un_3, if_true, if_false, ite_true, ite_false, Bool.false_eq_true, Bool.not_eq_false, decide_not, Bool.not_not, reduceCtorEq, st_i, st_l, st_r, st_n, ee_noL, ee_noL.eq_1, List.length_cons, List.length_nil, Nat.reduceAdd, Nat.reduceLT, Nat.zero_add, and_true, true_and, and_self, fin_ite, pu_0, pu_1, pu_3, sto_0, el_0, Bool.not_eq_true, decide_eq_false_iff_not, Bool.decide_eq_true, Bool.decide_eq_false, decide_true, decide_false, Bool.not_true, Bool.not_false, Bool.and_self, Bool.and_true, Bool.and_false, Bool.true_and, Bool.false_and, Bool.or_true, Bool.or_false, Bool.true_or, Bool.false_or, if_true, if_false, Bool.false_eq_true]
        · have q2 := q
          unfold gcode at q2
          simp only [ee_turn, gfar, r_codeOfM hd1, q, q2, j_a, bd_287, k_0, k_4294967295, v_call, v_cmp, v_cons, v_int, v_loc, v_nil, v_not, v_z, w_if, w_inc, w_ret, w_seq, w_set, List.getElem?_cons_zero, List.getElem?_cons_succ, List.set_cons_zero, List.set_cons_succ, ee_cmp0, ee_cmp1, ee_cmp2, ee_cmp3, ee_cmp4, ee_cmp5, ee_cmpL0, ee_cmpL1, ee_cmpL2, ee_cmpL3, ee_cmpL4, ee_cmpL5, ee_tru_eb, decide_eq_true_eq, ib_i, ie_b, ie_f, ie_t, ib_l, fin_i, fin_l, fin_v, fin_z, fin_a, fin_n, ee_b_0, ee_fld0, ee_fld1, ee_fld2, ee_fld3, bi_0, bi_1, bi_2, bi_3, bi_4, bi_5, bi_6, bi_7, bi_8, bi_9, bi_10, bl_20, bl_21, bl_22, bl_23, bl_24, bl_25, bl_26, bl_48, bl_49, un_0, un_1, un_2, un_3, if_true, if_false, ite_true, ite_false, Bool.false_eq_true, Bool.not_eq_false, decide_not, Bool.not_not, reduceCtorEq, st_i, st_l, st_r, st_n, ee_noL, ee_noL.eq_1, List.length_cons, List.length_nil, Nat.reduceAdd, Nat.reduceLT, Nat.zero_add, and_true, true_and, and_self, fin_ite, pu_0, pu_1, pu_3, sto_0, el_0, Bool.not_eq_true, decide_eq_false_iff_not, Bool.decide_eq_true, Bool.decide_eq_false, decide_true, decide_false, Bool.not_true, Bool.not_false, Bool.and_self, Bool.and_true, Bool.and_false, Bool.true_and, Bool.false_and, Bool.or_true, Bool.or_false, Bool.true_or, Bool.false_or, if_true, if_false, Bool.false_eq_true])
      (by
        intro k hi hc
        have hi : k ≤ (ctrack (Int32.ofNat n)).toInt.toNat := hi
        simp only [gfar, Bool.not_eq_true', decide_eq_false_iff_not] at hc
        show k + 1 ≤ (ctrack (Int32.ofNat n)).toInt.toNat
        have : k ≠ (ctrack (Int32.ofNat n)).toInt.toNat := by
          intro e
          rw [e, ← t3] at hc
          exact hc t1
        omega)
      (by
        intro k hi hc
        have hi : k ≤ (ctrack (Int32.ofNat n)).toInt.toNat := hi
        simp only [gfar, Bool.not_eq_true', decide_eq_false_iff_not] at hc
        show (ctrack (Int32.ofNat n)).toInt.toNat - (k + 1) < (ctrack (Int32.ofNat n)).toInt.toNat - k
        have : k ≠ (ctrack (Int32.ofNat n)).toInt.toNat := by
          intro e
          rw [e, ← t3] at hc
          exact hc t1
        omega)
      64 0 (Nat.zero_le _) (by omega)
    rw [show (some (Value.int (Int32.ofNat 0))) = some (Value.int 0) from rfl] at hl
    rw [hl.1]
    simp only [t2, bd_287, k_0, k_4294967295, v_call, v_cmp, v_cons, v_int, v_loc, v_nil, v_not, v_z, w_if, w_inc, w_ret, w_seq, w_set, List.getElem?_cons_zero, List.getElem?_cons_succ, List.set_cons_zero, List.set_cons_succ, ee_cmp0, ee_cmp1, ee_cmp2, ee_cmp3, ee_cmp4, ee_cmp5, ee_cmpL0, ee_cmpL1, ee_cmpL2, ee_cmpL3, ee_cmpL4, ee_cmpL5, ee_tru_eb, decide_eq_true_eq, ib_i, ie_b, ie_f, ie_t, ib_l, fin_i, fin_l, fin_v, fin_z, fin_a, fin_n, ee_b_0, ee_fld0, ee_fld1, ee_fld2, ee_fld3, bi_0, bi_1, bi_2, bi_3, bi_4, bi_5, bi_6, bi_7, bi_8, bi_9, bi_10, bl_20, bl_21, bl_22, bl_23, bl_24, bl_25, bl_26, bl_48, bl_49, un_0, un_1, un_2, un_3, if_true, if_false, ite_true, ite_false, Bool.false_eq_true, Bool.not_eq_false, decide_not, Bool.not_not, reduceCtorEq, st_i, st_l, st_r, st_n, ee_noL, ee_noL.eq_1, List.length_cons, List.length_nil, Nat.reduceAdd, Nat.reduceLT, Nat.zero_add, and_true, true_and, and_self, fin_ite, pu_0, pu_1, pu_3, sto_0, el_0, Bool.not_eq_true, decide_eq_false_iff_not, Bool.decide_eq_true, Bool.decide_eq_false, decide_true, decide_false, Bool.not_true, Bool.not_false, Bool.and_self, Bool.and_true, Bool.and_false, Bool.true_and, Bool.false_and, Bool.or_true, Bool.or_false, Bool.true_or, Bool.false_or, if_true, if_false, Bool.false_eq_true]
end TR
