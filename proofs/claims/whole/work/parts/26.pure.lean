/-! stopping, curves -/
section PU
variable {P : Nat → Nat → List Value → ee_W → Option (List Value × ee_W)} {d : Nat} {w : ee_W}
theorem i32_lt {a b : Int32} : a < b ↔ a.toInt < b.toInt := Int32.lt_iff_toInt_lt
theorem i32_le {a b : Int32} : a ≤ b ↔ a.toInt ≤ b.toInt := Int32.le_iff_toInt_le
theorem i32_eq {a b : Int32} : a = b ↔ a.toInt = b.toInt := Int32.toInt_inj.symm
theorem i32_bm {x : Int} (h1 : -2147483648 ≤ x) (h2 : x < 2147483648) : Int.bmod x 4294967296 = x := by
  rw [Int.bmod_def]
  split <;> omega
theorem i32_add {a b : Int32} (h1 : -2147483648 ≤ a.toInt + b.toInt) (h2 : a.toInt + b.toInt < 2147483648) : (a + b).toInt = a.toInt + b.toInt := by
  rw [Int32.toInt_add]
  exact i32_bm h1 h2
theorem i32_sub {a b : Int32} (h1 : -2147483648 ≤ a.toInt - b.toInt) (h2 : a.toInt - b.toInt < 2147483648) : (a - b).toInt = a.toInt - b.toInt := by
  rw [Int32.toInt_sub]
  exact i32_bm h1 h2
theorem i32_mul {a b : Int32} (h1 : -2147483648 ≤ a.toInt * b.toInt) (h2 : a.toInt * b.toInt < 2147483648) : (a * b).toInt = a.toInt * b.toInt := by
  rw [Int32.toInt_mul]
  exact i32_bm h1 h2
/-- how far till it stands, as the reference adds it up -/
def pw_c (s : Int32 × Int32) : Bool := decide (0 < s.2)
def pw_n (pull : Int32) (s : Int32 × Int32) : Int32 × Int32 := (s.1 + s.2, s.2 - pull)
def pway (speed pull : Int32) : Int32 := (lp pw_c (pw_n pull) 65 (0, speed)).1
theorem r_wayOf (hd : 1 ≤ d) (speed pull : Int32) (hp : 1 ≤ pull.toInt ∧ pull.toInt ≤ 9) (hs : speed.toInt ≤ 65) : ee_run ee_B P d 259 [.int speed, .int pull] w = some ([.int (pway speed pull)], w) := by
  obtain ⟨d, rfl⟩ : ∃ k, d = k + 1 := ⟨d - 1, by omega⟩
  rw [rn_259]
  simp only [w_while, bd_259, k_0, v_bin, v_int, v_loc, v_z, w_ret, w_seq, w_set, List.getElem?_cons_zero, List.getElem?_cons_succ, List.set_cons_zero, List.set_cons_succ, ee_cmp0, ee_cmp1, ee_cmp2, ee_cmp3, ee_cmp4, ee_cmp5, ee_cmpL0, ee_cmpL1, ee_cmpL2, ee_cmpL3, ee_cmpL4, ee_cmpL5, ee_tru_eb, decide_eq_true_eq, ib_i, ie_b, ie_f, ie_t, ib_l, fin_i, fin_l, fin_v, fin_z, fin_a, fin_n, ee_b_0, ee_fld0, ee_fld1, ee_fld2, ee_fld3, bi_0, bi_1, bi_2, bi_3, bi_4, bi_5, bi_6, bi_7, bi_8, bi_9, bi_10, bl_20, bl_21, bl_22, bl_23, bl_24, bl_25, bl_26, bl_48, bl_49, un_0, un_1, un_2, un_3, if_true, if_false, ite_true, ite_false, Bool.false_eq_true, Bool.not_eq_false, decide_not, Bool.not_not, reduceCtorEq, st_i, st_l, st_r, st_n, ee_noL, ee_noL.eq_1, List.length_cons, List.length_nil, Nat.reduceAdd, Nat.reduceLT, Nat.zero_add, and_true, true_and, and_self, fin_ite, pu_0, pu_1, pu_3, sto_0, el_0, Bool.not_eq_true, decide_eq_false_iff_not, Bool.decide_eq_true, Bool.decide_eq_false]
  have h := ee_wh_lp (x := ee_ev es_sh es_rf (ee_run ee_B P d) (n_z 4 (n_loc 3 0))) (b := ee_evS es_sh es_rf (ee_run ee_B P d) (s_seq 12 (s_set 2 0 (n_bin 0 (n_loc 2 0) (n_loc 3 0))) (s_set 3 0 (n_bin 1 (n_loc 3 0) (n_loc 1 0)))))
    (fun s : Int32 × Int32 => ([some (.int speed), some (.int pull), some (.int s.1), some (.int s.2)], w)) pw_c (pw_n pull) (fun s => s.2.toInt ≤ 65 ∧ -10 ≤ s.2.toInt ∨ s.2 = speed) (fun s => s.2.toInt.toNat)
    (by
      intro s _
      simp only [ee_turn, pw_c, pw_n, bd_259, k_0, v_bin, v_int, v_loc, v_z, w_ret, w_seq, w_set, List.getElem?_cons_zero, List.getElem?_cons_succ, List.set_cons_zero, List.set_cons_succ, ee_cmp0, ee_cmp1, ee_cmp2, ee_cmp3, ee_cmp4, ee_cmp5, ee_cmpL0, ee_cmpL1, ee_cmpL2, ee_cmpL3, ee_cmpL4, ee_cmpL5, ee_tru_eb, decide_eq_true_eq, ib_i, ie_b, ie_f, ie_t, ib_l, fin_i, fin_l, fin_v, fin_z, fin_a, fin_n, ee_b_0, ee_fld0, ee_fld1, ee_fld2, ee_fld3, bi_0, bi_1, bi_2, bi_3, bi_4, bi_5, bi_6, bi_7, bi_8, bi_9, bi_10, bl_20, bl_21, bl_22, bl_23, bl_24, bl_25, bl_26, bl_48, bl_49, un_0, un_1, un_2, un_3, if_true, if_false, ite_true, ite_false, Bool.false_eq_true, Bool.not_eq_false, decide_not, Bool.not_not, reduceCtorEq, st_i, st_l, st_r, st_n, ee_noL, ee_noL.eq_1, List.length_cons, List.length_nil, Nat.reduceAdd, Nat.reduceLT, Nat.zero_add, and_true, true_and, and_self, fin_ite, pu_0, pu_1, pu_3, sto_0, el_0, Bool.not_eq_true, decide_eq_false_iff_not, Bool.decide_eq_true, Bool.decide_eq_false]
      by_cases h : 0 < s.2 <;> simp [h])
    (by
      intro s hi hc
      simp only [pw_c, decide_eq_true_eq, i32_lt] at hc
      have h0 : (0 : Int32).toInt = 0 := rfl
      simp only [pw_n]
      rcases hi with hi | hi
      · left; rw [i32_sub (by omega) (by omega)]; omega
      · subst hi; left; rw [i32_sub (by omega) (by omega)]; omega)
    (by
      intro s hi hc
      simp only [pw_c, decide_eq_true_eq, i32_lt] at hc
      have h0 : (0 : Int32).toInt = 0 := rfl
      simp only [pw_n]
      rcases hi with hi | hi
      · rw [i32_sub (by omega) (by omega)]; omega
      · subst hi; rw [i32_sub (by omega) (by omega)]; omega)
    65 (0, speed) (Or.inr rfl) (by simp only; omega)
  rw [h.1]
  simp only [bd_259, k_0, v_bin, v_int, v_loc, v_z, w_ret, w_seq, w_set, List.getElem?_cons_zero, List.getElem?_cons_succ, List.set_cons_zero, List.set_cons_succ, ee_cmp0, ee_cmp1, ee_cmp2, ee_cmp3, ee_cmp4, ee_cmp5, ee_cmpL0, ee_cmpL1, ee_cmpL2, ee_cmpL3, ee_cmpL4, ee_cmpL5, ee_tru_eb, decide_eq_true_eq, ib_i, ie_b, ie_f, ie_t, ib_l, fin_i, fin_l, fin_v, fin_z, fin_a, fin_n, ee_b_0, ee_fld0, ee_fld1, ee_fld2, ee_fld3, bi_0, bi_1, bi_2, bi_3, bi_4, bi_5, bi_6, bi_7, bi_8, bi_9, bi_10, bl_20, bl_21, bl_22, bl_23, bl_24, bl_25, bl_26, bl_48, bl_49, un_0, un_1, un_2, un_3, if_true, if_false, ite_true, ite_false, Bool.false_eq_true, Bool.not_eq_false, decide_not, Bool.not_not, reduceCtorEq, st_i, st_l, st_r, st_n, ee_noL, ee_noL.eq_1, List.length_cons, List.length_nil, Nat.reduceAdd, Nat.reduceLT, Nat.zero_add, and_true, true_and, and_self, fin_ite, pu_0, pu_1, pu_3, sto_0, el_0, Bool.not_eq_true, decide_eq_false_iff_not, Bool.decide_eq_true, Bool.decide_eq_false]
  rfl
end PU
