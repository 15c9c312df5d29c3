section ST
variable {P : Nat → Nat → List Value → ee_W → Option (List Value × ee_W)} {d : Nat} {w : ee_W} {h : Nat}
theorem j_of {s : Int32} (h : 0 ≤ s.toInt) : ∃ n : Nat, n < 2147483648 ∧ s = Int32.ofNat n ∧ s.toInt = n := by
  have h2 : s.toInt < 2147483648 := Int32.toInt_lt s
  refine ⟨s.toInt.toNat, by omega, ?_, by omega⟩
  rw [i32_eq, nI_t (by omega)]
  omega
theorem way_of {s p : Int32} (h1 : 0 ≤ s.toInt) (h2 : s.toInt ≤ 64) (h3 : 1 ≤ p.toInt) (h4 : p.toInt ≤ 9) : pway s p = cway s p := by
  obtain ⟨n, q1, q2, q3⟩ := j_of h1
  obtain ⟨m, r1, r2, r3⟩ := j_of (s := p) (by omega)
  rw [q2, r2]
  exact way_eq n (by omega) m (by omega) (by omega)
/-- a bound, as the integers have it -/
theorem in_iff (a b c : Int32) : (decide (b ≤ a) && decide (a ≤ c)) = true ↔ b.toInt ≤ a.toInt ∧ a.toInt ≤ c.toInt := by
  rw [Bool.and_eq_true, decide_eq_true_eq, decide_eq_true_eq, i32_le, i32_le]
def x_stop (s p : Int32) : Int32 := if ((decide (0 ≤ s) && decide (s ≤ 64)) && (decide (1 ≤ p) && decide (p ≤ 9))) = true then cway s p else -1
theorem q_stop (hd : 2 ≤ d) (hh : es_sh h = (10, 0)) (s p : Int32) : ee_run ee_B P d 134 [.ref h, .int s, .int p] w = some ([.int (x_stop s p)], w) := by
  obtain ⟨d, rfl⟩ : ∃ k, d = k + 1 := ⟨d - 1, by omega⟩
  have hd1 : 1 ≤ d := by omega
  rw [rn_134 hh]
  unfold x_stop
  cases h1 : (decide (0 ≤ s) && decide (s ≤ 64)) <;> cases h2 : (decide (1 ≤ p) && decide (p ≤ 9)) <;> simp only [r_within hd1, r_wayToStop hd1, h1, h2, bd_134, k_0, k_1, k_4294967295, k_64, k_9, nz_1, nz_64, nz_9, v_call, v_cons, v_int, v_loc, v_nil, v_not, v_or, v_z, w_if, w_ret, List.getElem?_cons_zero, List.getElem?_cons_succ, List.set_cons_zero, List.set_cons_succ, ee_cmp0, ee_cmp1, ee_cmp2, ee_cmp3, ee_cmp4, ee_cmp5, ee_cmpL0, ee_cmpL1, ee_cmpL2, ee_cmpL3, ee_cmpL4, ee_cmpL5, ee_tru_eb, decide_eq_true_eq, ib_i, ie_b, ie_f, ie_t, ib_l, fin_i, fin_l, fin_v, fin_z, fin_a, fin_n, ee_b_0, ee_fld0, ee_fld1, ee_fld2, ee_fld3, bi_0, bi_1, bi_2, bi_3, bi_4, bi_5, bi_6, bi_7, bi_8, bi_9, bi_10, bl_20, bl_21, bl_22, bl_23, bl_24, bl_25, bl_26, bl_48, bl_49, un_0, un_1, un_2, un_3, if_true, if_false, ite_true, ite_false, Bool.false_eq_true, Bool.not_eq_false, decide_not, Bool.not_not, reduceCtorEq, st_i, st_l, st_r, st_n, ee_noL, ee_noL.eq_1, List.length_cons, List.length_nil, Nat.reduceAdd, Nat.reduceLT, Nat.zero_add, and_true, true_and, and_self, fin_ite, pu_0, pu_1, pu_3, sto_0, el_0, Bool.not_eq_true, decide_eq_false_iff_not, Bool.decide_eq_true, Bool.decide_eq_false, decide_true, decide_false, Bool.not_true, Bool.not_false, Bool.and_self, Bool.and_true, Bool.and_false, Bool.true_and, Bool.false_and, Bool.or_true, Bool.or_false, Bool.true_or, Bool.false_or, if_true, if_false, Bool.false_eq_true]
theorem m_stop (hd : 3 ≤ d) (hh : es_sh h = (18, 0)) (s p : Int32) : ee_run ee_B P d 306 [.ref h, .int s, .int p] w = some ([.int (x_stop s p)], w) := by
  obtain ⟨d, rfl⟩ : ∃ k, d = k + 1 := ⟨d - 1, by omega⟩
  have hd1 : 1 ≤ d := by omega
  have hd2 : 2 ≤ d := by omega
  have r305 : ∀ x : Int32, ee_run ee_B P d 305 [.int x] w = some ([.int (ee_b (decide (1 ≤ x) && decide (x ≤ 9)))], w) := by
    intro x
    obtain ⟨d, rfl⟩ : ∃ k, d = k + 1 := ⟨d - 1, by omega⟩
    have hd1 : 1 ≤ d := by omega
    rw [rn_305]
    simp only [r_isIn hd1, bd_305, k_1, k_9, nz_1, nz_9, v_call, v_cons, v_int, v_loc, v_nil, w_ret, List.getElem?_cons_zero, List.getElem?_cons_succ, List.set_cons_zero, List.set_cons_succ, ee_cmp0, ee_cmp1, ee_cmp2, ee_cmp3, ee_cmp4, ee_cmp5, ee_cmpL0, ee_cmpL1, ee_cmpL2, ee_cmpL3, ee_cmpL4, ee_cmpL5, ee_tru_eb, decide_eq_true_eq, ib_i, ie_b, ie_f, ie_t, ib_l, fin_i, fin_l, fin_v, fin_z, fin_a, fin_n, ee_b_0, ee_fld0, ee_fld1, ee_fld2, ee_fld3, bi_0, bi_1, bi_2, bi_3, bi_4, bi_5, bi_6, bi_7, bi_8, bi_9, bi_10, bl_20, bl_21, bl_22, bl_23, bl_24, bl_25, bl_26, bl_48, bl_49, un_0, un_1, un_2, un_3, if_true, if_false, ite_true, ite_false, Bool.false_eq_true, Bool.not_eq_false, decide_not, Bool.not_not, reduceCtorEq, st_i, st_l, st_r, st_n, ee_noL, ee_noL.eq_1, List.length_cons, List.length_nil, Nat.reduceAdd, Nat.reduceLT, Nat.zero_add, and_true, true_and, and_self, fin_ite, pu_0, pu_1, pu_3, sto_0, el_0, Bool.not_eq_true, decide_eq_false_iff_not, Bool.decide_eq_true, Bool.decide_eq_false, decide_true, decide_false, Bool.not_true, Bool.not_false, Bool.and_self, Bool.and_true, Bool.and_false, Bool.true_and, Bool.false_and, Bool.or_true, Bool.or_false, Bool.true_or, Bool.false_or, if_true, if_false, Bool.false_eq_true]
  rw [rn_306 hh]
  unfold x_stop
  cases h1 : (decide (0 ≤ s) && decide (s ≤ 64)) <;> cases h2 : (decide (1 ≤ p) && decide (p ≤ 9)) <;> try (simp only [r_isIn hd1, r305, h1, h2, bd_306, k_0, k_4294967295, k_64, nz_64, v_and, v_call, v_cons, v_int, v_loc, v_nil, v_tern, v_z, w_ret, List.getElem?_cons_zero, List.getElem?_cons_succ, List.set_cons_zero, List.set_cons_succ, ee_cmp0, ee_cmp1, ee_cmp2, ee_cmp3, ee_cmp4, ee_cmp5, ee_cmpL0, ee_cmpL1, ee_cmpL2, ee_cmpL3, ee_cmpL4, ee_cmpL5, ee_tru_eb, decide_eq_true_eq, ib_i, ie_b, ie_f, ie_t, ib_l, fin_i, fin_l, fin_v, fin_z, fin_a, fin_n, ee_b_0, ee_fld0, ee_fld1, ee_fld2, ee_fld3, bi_0, bi_1, bi_2, bi_3, bi_4, bi_5, bi_6, bi_7, bi_8, bi_9, bi_10, bl_20, bl_21, bl_22, bl_23, bl_24, bl_25, bl_26, bl_48, bl_49, un_0, un_1, un_2, un_3, if_true, if_false, ite_true, ite_false, Bool.false_eq_true, Bool.not_eq_false, decide_not, Bool.not_not, reduceCtorEq, st_i, st_l, st_r, st_n, ee_noL, ee_noL.eq_1, List.length_cons, List.length_nil, Nat.reduceAdd, Nat.reduceLT, Nat.zero_add, and_true, true_and, and_self, fin_ite, pu_0, pu_1, pu_3, sto_0, el_0, Bool.not_eq_true, decide_eq_false_iff_not, Bool.decide_eq_true, Bool.decide_eq_false, decide_true, decide_false, Bool.not_true, Bool.not_false, Bool.and_self, Bool.and_true, Bool.and_false, Bool.true_and, Bool.false_and, Bool.or_true, Bool.or_false, Bool.true_or, Bool.false_or, if_true, if_false, Bool.false_eq_true]; done)
  obtain ⟨a1, a2⟩ := (in_iff _ _ _).1 h1
  obtain ⟨a3, a4⟩ := (in_iff _ _ _).1 h2
  have a1 : 0 ≤ s.toInt := a1
  have a2 : s.toInt ≤ 64 := a2
  have a3 : 1 ≤ p.toInt := a3
  have a4 : p.toInt ≤ 9 := a4
  have e := way_of a1 a2 a3 a4
  have e2 := r_wayOf (P := P) (w := w) hd1 s p ⟨a3, a4⟩ (by omega)
  rw [e] at e2
  simp only [r_isIn hd1, r305, h1, h2, e2, bd_306, k_0, k_4294967295, k_64, nz_64, v_and, v_call, v_cons, v_int, v_loc, v_nil, v_tern, v_z, w_ret, List.getElem?_cons_zero, List.getElem?_cons_succ, List.set_cons_zero, List.set_cons_succ, ee_cmp0, ee_cmp1, ee_cmp2, ee_cmp3, ee_cmp4, ee_cmp5, ee_cmpL0, ee_cmpL1, ee_cmpL2, ee_cmpL3, ee_cmpL4, ee_cmpL5, ee_tru_eb, decide_eq_true_eq, ib_i, ie_b, ie_f, ie_t, ib_l, fin_i, fin_l, fin_v, fin_z, fin_a, fin_n, ee_b_0, ee_fld0, ee_fld1, ee_fld2, ee_fld3, bi_0, bi_1, bi_2, bi_3, bi_4, bi_5, bi_6, bi_7, bi_8, bi_9, bi_10, bl_20, bl_21, bl_22, bl_23, bl_24, bl_25, bl_26, bl_48, bl_49, un_0, un_1, un_2, un_3, if_true, if_false, ite_true, ite_false, Bool.false_eq_true, Bool.not_eq_false, decide_not, Bool.not_not, reduceCtorEq, st_i, st_l, st_r, st_n, ee_noL, ee_noL.eq_1, List.length_cons, List.length_nil, Nat.reduceAdd, Nat.reduceLT, Nat.zero_add, and_true, true_and, and_self, fin_ite, pu_0, pu_1, pu_3, sto_0, el_0, Bool.not_eq_true, decide_eq_false_iff_not, Bool.decide_eq_true, Bool.decide_eq_false, decide_true, decide_false, Bool.not_true, Bool.not_false, Bool.and_self, Bool.and_true, Bool.and_false, Bool.true_and, Bool.false_and, Bool.or_true, Bool.or_false, Bool.true_or, Bool.false_or, if_true, if_false, Bool.false_eq_true]
def x_curve (f p : Int32) : Int32 := if ((decide (0 ≤ f) && decide (f ≤ 1023)) && (decide (1 ≤ p) && decide (p ≤ 9))) = true then Int32.ofNat (mcurve f p) else -1
theorem curve_eq {f p : Int32} (h1 : 0 ≤ f.toInt) (h2 : f.toInt ≤ 1023) (h3 : 1 ≤ p.toInt) (h4 : p.toInt ≤ 9) : ccurve f p = mcurve f p := by
  have e : cfar f = f := by
    unfold cfar
    rw [if_neg (show ¬ f < 0 by rw [i32_lt]; show ¬ f.toInt < 0; omega), if_pos (show f ≤ 1023 by rw [i32_le]; exact h2)]
  obtain ⟨m, r1, r2, r3⟩ := j_of (s := p) (by omega)
  unfold ccurve mcurve
  rw [bs_tn, e, tn, tn]
  · refine (lp_congr (fun s => s ≤ 64) (fun _ _ _ => rfl) ?_ 64 0 (by decide)).trans ?_
    · intro s hs hc
      simp only [Bool.and_eq_true, decide_eq_true_eq] at hc
      show s + 1 ≤ 64
      omega
    · have : ∀ s, (decide (s < 64) && decide (cway (Int32.ofNat (s + 1)) p ≤ f)) = (decide (s < 64) && decide (pway (Int32.ofNat (s + 1)) p ≤ f)) := by
        intro s
        by_cases q : s < 64
        · rw [r2, way_eq (s + 1) (by omega) m (by omega) (by omega)]
        · simp only [q, decide_false, Bool.false_and]
      simp only [this]
  · intro s hs hf
    simp only [decide_eq_true_eq] at hf ⊢
    left
    have hm := way_mono s hs m (by omega) (by omega)
    rw [← r2] at hm
    rw [i32_le] at hm hf ⊢
    omega
theorem q_curve (hd : 3 ≤ d) (hh : es_sh h = (10, 0)) (s p : Int32) : ee_run ee_B P d 133 [.ref h, .int s, .int p] w = some ([.int (x_curve s p)], w) := by
  obtain ⟨d, rfl⟩ : ∃ k, d = k + 1 := ⟨d - 1, by omega⟩
  have hd1 : 1 ≤ d := by omega
  have hd2 : 2 ≤ d := by omega
  rw [rn_133 hh]
  unfold x_curve
  cases h1 : (decide (0 ≤ s) && decide (s ≤ 1023)) <;> cases h2 : (decide (1 ≤ p) && decide (p ≤ 9)) <;> try (simp only [r_within hd1, h1, h2, bd_133, k_0, k_1, k_1023, k_4294967295, k_9, nz_1, nz_1023, nz_9, v_call, v_cons, v_int, v_loc, v_nil, v_not, v_or, v_z, w_if, w_ret, List.getElem?_cons_zero, List.getElem?_cons_succ, List.set_cons_zero, List.set_cons_succ, ee_cmp0, ee_cmp1, ee_cmp2, ee_cmp3, ee_cmp4, ee_cmp5, ee_cmpL0, ee_cmpL1, ee_cmpL2, ee_cmpL3, ee_cmpL4, ee_cmpL5, ee_tru_eb, decide_eq_true_eq, ib_i, ie_b, ie_f, ie_t, ib_l, fin_i, fin_l, fin_v, fin_z, fin_a, fin_n, ee_b_0, ee_fld0, ee_fld1, ee_fld2, ee_fld3, bi_0, bi_1, bi_2, bi_3, bi_4, bi_5, bi_6, bi_7, bi_8, bi_9, bi_10, bl_20, bl_21, bl_22, bl_23, bl_24, bl_25, bl_26, bl_48, bl_49, un_0, un_1, un_2, un_3, if_true, if_false, ite_true, ite_false, Bool.false_eq_true, Bool.not_eq_false, decide_not, Bool.not_not, reduceCtorEq, st_i, st_l, st_r, st_n, ee_noL, ee_noL.eq_1, List.length_cons, List.length_nil, Nat.reduceAdd, Nat.reduceLT, Nat.zero_add, and_true, true_and, and_self, fin_ite, pu_0, pu_1, pu_3, sto_0, el_0, Bool.not_eq_true, decide_eq_false_iff_not, Bool.decide_eq_true, Bool.decide_eq_false, decide_true, decide_false, Bool.not_true, Bool.not_false, Bool.and_self, Bool.and_true, Bool.and_false, Bool.true_and, Bool.false_and, Bool.or_true, Bool.or_false, Bool.true_or, Bool.false_or, if_true, if_false, Bool.false_eq_true]; done)
  obtain ⟨a1, a2⟩ := (in_iff _ _ _).1 h1
  obtain ⟨a3, a4⟩ := (in_iff _ _ _).1 h2
  have a1 : 0 ≤ s.toInt := a1
  have a2 : s.toInt ≤ 1023 := a2
  have a3 : 1 ≤ p.toInt := a3
  have a4 : p.toInt ≤ 9 := a4
  have e2 := r_speedOver (P := P) (w := w) hd2 s p
  rw [if_neg (show ¬ s < 0 by rw [i32_lt]; show ¬ s.toInt < 0; omega), curve_eq a1 a2 a3 a4] at e2
  simp only [r_within hd1, h1, h2, e2, bd_133, k_0, k_1, k_1023, k_4294967295, k_9, nz_1, nz_1023, nz_9, v_call, v_cons, v_int, v_loc, v_nil, v_not, v_or, v_z, w_if, w_ret, List.getElem?_cons_zero, List.getElem?_cons_succ, List.set_cons_zero, List.set_cons_succ, ee_cmp0, ee_cmp1, ee_cmp2, ee_cmp3, ee_cmp4, ee_cmp5, ee_cmpL0, ee_cmpL1, ee_cmpL2, ee_cmpL3, ee_cmpL4, ee_cmpL5, ee_tru_eb, decide_eq_true_eq, ib_i, ie_b, ie_f, ie_t, ib_l, fin_i, fin_l, fin_v, fin_z, fin_a, fin_n, ee_b_0, ee_fld0, ee_fld1, ee_fld2, ee_fld3, bi_0, bi_1, bi_2, bi_3, bi_4, bi_5, bi_6, bi_7, bi_8, bi_9, bi_10, bl_20, bl_21, bl_22, bl_23, bl_24, bl_25, bl_26, bl_48, bl_49, un_0, un_1, un_2, un_3, if_true, if_false, ite_true, ite_false, Bool.false_eq_true, Bool.not_eq_false, decide_not, Bool.not_not, reduceCtorEq, st_i, st_l, st_r, st_n, ee_noL, ee_noL.eq_1, List.length_cons, List.length_nil, Nat.reduceAdd, Nat.reduceLT, Nat.zero_add, and_true, true_and, and_self, fin_ite, pu_0, pu_1, pu_3, sto_0, el_0, Bool.not_eq_true, decide_eq_false_iff_not, Bool.decide_eq_true, Bool.decide_eq_false, decide_true, decide_false, Bool.not_true, Bool.not_false, Bool.and_self, Bool.and_true, Bool.and_false, Bool.true_and, Bool.false_and, Bool.or_true, Bool.or_false, Bool.true_or, Bool.false_or, if_true, if_false, Bool.false_eq_true]
theorem r_isPull (hd : 2 ≤ d) (x : Int32) : ee_run ee_B P d 305 [.int x] w = some ([.int (ee_b (decide (1 ≤ x) && decide (x ≤ 9)))], w) := by
  obtain ⟨d, rfl⟩ : ∃ k, d = k + 1 := ⟨d - 1, by omega⟩
  have hd1 : 1 ≤ d := by omega
  rw [rn_305]
  simp only [r_isIn hd1, bd_305, k_1, k_9, nz_1, nz_9, v_call, v_cons, v_int, v_loc, v_nil, w_ret, List.getElem?_cons_zero, List.getElem?_cons_succ, List.set_cons_zero, List.set_cons_succ, ee_cmp0, ee_cmp1, ee_cmp2, ee_cmp3, ee_cmp4, ee_cmp5, ee_cmpL0, ee_cmpL1, ee_cmpL2, ee_cmpL3, ee_cmpL4, ee_cmpL5, ee_tru_eb, decide_eq_true_eq, ib_i, ie_b, ie_f, ie_t, ib_l, fin_i, fin_l, fin_v, fin_z, fin_a, fin_n, ee_b_0, ee_fld0, ee_fld1, ee_fld2, ee_fld3, bi_0, bi_1, bi_2, bi_3, bi_4, bi_5, bi_6, bi_7, bi_8, bi_9, bi_10, bl_20, bl_21, bl_22, bl_23, bl_24, bl_25, bl_26, bl_48, bl_49, un_0, un_1, un_2, un_3, if_true, if_false, ite_true, ite_false, Bool.false_eq_true, Bool.not_eq_false, decide_not, Bool.not_not, reduceCtorEq, st_i, st_l, st_r, st_n, ee_noL, ee_noL.eq_1, List.length_cons, List.length_nil, Nat.reduceAdd, Nat.reduceLT, Nat.zero_add, and_true, true_and, and_self, fin_ite, pu_0, pu_1, pu_3, sto_0, el_0, Bool.not_eq_true, decide_eq_false_iff_not, Bool.decide_eq_true, Bool.decide_eq_false, decide_true, decide_false, Bool.not_true, Bool.not_false, Bool.and_self, Bool.and_true, Bool.and_false, Bool.true_and, Bool.false_and, Bool.or_true, Bool.or_false, Bool.true_or, Bool.false_or, if_true, if_false, Bool.false_eq_true]
theorem m_curve (hd : 3 ≤ d) (hh : es_sh h = (18, 0)) (s p : Int32) : ee_run ee_B P d 304 [.ref h, .int s, .int p] w = some ([.int (x_curve s p)], w) := by
  obtain ⟨d, rfl⟩ : ∃ k, d = k + 1 := ⟨d - 1, by omega⟩
  have hd1 : 1 ≤ d := by omega
  have hd2 : 2 ≤ d := by omega
  rw [rn_304 hh]
  unfold x_curve
  cases h1 : (decide (0 ≤ s) && decide (s ≤ 1023)) <;> cases h2 : (decide (1 ≤ p) && decide (p ≤ 9)) <;> try (simp only [r_isIn hd1, r_isPull hd2, h1, h2, bd_304, k_0, k_1023, k_4294967295, nz_1023, v_and, v_call, v_cons, v_int, v_loc, v_nil, v_tern, v_z, w_ret, List.getElem?_cons_zero, List.getElem?_cons_succ, List.set_cons_zero, List.set_cons_succ, ee_cmp0, ee_cmp1, ee_cmp2, ee_cmp3, ee_cmp4, ee_cmp5, ee_cmpL0, ee_cmpL1, ee_cmpL2, ee_cmpL3, ee_cmpL4, ee_cmpL5, ee_tru_eb, decide_eq_true_eq, ib_i, ie_b, ie_f, ie_t, ib_l, fin_i, fin_l, fin_v, fin_z, fin_a, fin_n, ee_b_0, ee_fld0, ee_fld1, ee_fld2, ee_fld3, bi_0, bi_1, bi_2, bi_3, bi_4, bi_5, bi_6, bi_7, bi_8, bi_9, bi_10, bl_20, bl_21, bl_22, bl_23, bl_24, bl_25, bl_26, bl_48, bl_49, un_0, un_1, un_2, un_3, if_true, if_false, ite_true, ite_false, Bool.false_eq_true, Bool.not_eq_false, decide_not, Bool.not_not, reduceCtorEq, st_i, st_l, st_r, st_n, ee_noL, ee_noL.eq_1, List.length_cons, List.length_nil, Nat.reduceAdd, Nat.reduceLT, Nat.zero_add, and_true, true_and, and_self, fin_ite, pu_0, pu_1, pu_3, sto_0, el_0, Bool.not_eq_true, decide_eq_false_iff_not, Bool.decide_eq_true, Bool.decide_eq_false, decide_true, decide_false, Bool.not_true, Bool.not_false, Bool.and_self, Bool.and_true, Bool.and_false, Bool.true_and, Bool.false_and, Bool.or_true, Bool.or_false, Bool.true_or, Bool.false_or, if_true, if_false, Bool.false_eq_true]; done)
  have e2 := r_curveOf (P := P) (w := w) hd2 s p ((in_iff p 1 9).1 h2)
  simp only [r_isIn hd1, r_isPull hd2, h1, h2, e2, bd_304, k_0, k_1023, k_4294967295, nz_1023, v_and, v_call, v_cons, v_int, v_loc, v_nil, v_tern, v_z, w_ret, List.getElem?_cons_zero, List.getElem?_cons_succ, List.set_cons_zero, List.set_cons_succ, ee_cmp0, ee_cmp1, ee_cmp2, ee_cmp3, ee_cmp4, ee_cmp5, ee_cmpL0, ee_cmpL1, ee_cmpL2, ee_cmpL3, ee_cmpL4, ee_cmpL5, ee_tru_eb, decide_eq_true_eq, ib_i, ie_b, ie_f, ie_t, ib_l, fin_i, fin_l, fin_v, fin_z, fin_a, fin_n, ee_b_0, ee_fld0, ee_fld1, ee_fld2, ee_fld3, bi_0, bi_1, bi_2, bi_3, bi_4, bi_5, bi_6, bi_7, bi_8, bi_9, bi_10, bl_20, bl_21, bl_22, bl_23, bl_24, bl_25, bl_26, bl_48, bl_49, un_0, un_1, un_2, un_3, if_true, if_false, ite_true, ite_false, Bool.false_eq_true, Bool.not_eq_false, decide_not, Bool.not_not, reduceCtorEq, st_i, st_l, st_r, st_n, ee_noL, ee_noL.eq_1, List.length_cons, List.length_nil, Nat.reduceAdd, Nat.reduceLT, Nat.zero_add, and_true, true_and, and_self, fin_ite, pu_0, pu_1, pu_3, sto_0, el_0, Bool.not_eq_true, decide_eq_false_iff_not, Bool.decide_eq_true, Bool.decide_eq_false, decide_true, decide_false, Bool.not_true, Bool.not_false, Bool.and_self, Bool.and_true, Bool.and_false, Bool.true_and, Bool.false_and, Bool.or_true, Bool.or_false, Bool.true_or, Bool.false_or, if_true, if_false, Bool.false_eq_true]
end ST
