section RI
variable {P : Nat → Nat → List Value → ee_W → Option (List Value × ee_W)} {d : Nat} {w : ee_W} {h : Nat}
def tk (n : Nat) : Nat := (ctrack (Int32.ofNat n)).toInt.toNat
def bes (p : Nat) : Nat := if p % 16 < 4 ∧ 0 < p / 16 then p / 16 - 1 else if 11 < p % 16 ∧ p / 16 < 63 then p / 16 + 1 else 64
set_option maxRecDepth 100000 in
theorem bes_all : ∀ p, p < 1024 → m_bes (Int32.ofNat p) = (if bes p = 64 then -1 else Int32.ofNat (bes p)) ∧ Int32.ofNat p / 16 = Int32.ofNat (p / 16) ∧ bes p ≤ 64 := by decide +kernel
set_option maxRecDepth 100000 in
theorem code_all : ∀ t, t < 64 → ∀ n, n < 64 → decide (gcode (Int32.ofNat t) = Int32.ofNat n) = decide (t = tk n) := by decide +kernel
theorem neg_all : ∀ t, t < 64 → ¬ Int32.ofNat t = -1 := by decide +kernel
def rT (t p : Nat) : Bool := decide (p / 16 = t) || decide (bes p = t)
def lowN (t : Nat) : Nat := 16 * t - 4
def highN (t : Nat) : Nat := if 16 * t + 19 ≤ 1023 then 16 * t + 19 else 1023
theorem rT_iff {t p : Nat} (ht : t < 64) (hp : p < 1024) : rT t p = decide (lowN t ≤ p ∧ p ≤ highN t) := by
  unfold rT
  rw [← Bool.decide_or]
  apply decide_eq_decide.2
  unfold bes lowN highN
  split
  · split <;> omega
  · split
    · split <;> omega
    · split <;> omega
theorem r_readAt (hd : 2 ≤ d) (p n : Nat) (hp : p < 1024) (hn : n < 64) : ee_run ee_B P d 298 [.int (Int32.ofNat p), .int (Int32.ofNat n)] w = some ([.int (ee_b (rT (tk n) p))], w) := by
  obtain ⟨d, rfl⟩ : ∃ k, d = k + 1 := ⟨d - 1, by omega⟩
  have hd1 : 1 ≤ d := by omega
  obtain ⟨e1, e2, e3⟩ := bes_all p hp
  have ht : tk n < 64 := (tr_all n hn).2.2.2
  have f1 := decide_eq_decide.1 (code_all (p / 16) (by omega) n hn)
  rw [rn_298]
  by_cases q1 : p / 16 = tk n
  · have g1 := f1.2 q1
    simp only [rT, q1, r_codeM hd1, e2, bd_298, k_16, k_4294967295, nz_16, v_and, v_bin, v_call, v_cmp, v_cons, v_int, v_loc, v_mat, v_nil, v_or, w_ret, List.getElem?_cons_zero, List.getElem?_cons_succ, List.set_cons_zero, List.set_cons_succ, ee_cmp0, ee_cmp1, ee_cmp2, ee_cmp3, ee_cmp4, ee_cmp5, ee_cmpL0, ee_cmpL1, ee_cmpL2, ee_cmpL3, ee_cmpL4, ee_cmpL5, ee_tru_eb, decide_eq_true_eq, ib_i, ie_b, ie_f, ie_t, ib_l, fin_i, fin_l, fin_v, fin_z, fin_a, fin_n, ee_b_0, ee_fld0, ee_fld1, ee_fld2, ee_fld3, bi_0, bi_1, bi_2, bi_3, bi_4, bi_5, bi_6, bi_7, bi_8, bi_9, bi_10, bl_20, bl_21, bl_22, bl_23, bl_24, bl_25, bl_26, bl_48, bl_49, un_0, un_1, un_2, un_3, if_true, if_false, ite_true, ite_false, Bool.false_eq_true, Bool.not_eq_false, decide_not, Bool.not_not, reduceCtorEq, st_i, st_l, st_r, st_n, ee_noL, ee_noL.eq_1, List.length_cons, List.length_nil, Nat.reduceAdd, Nat.reduceLT, Nat.zero_add, and_true, true_and, and_self, fin_ite, pu_0, pu_1, pu_3, sto_0, el_0, Bool.not_eq_true, decide_eq_false_iff_not, Bool.decide_eq_true, Bool.decide_eq_false, decide_true, decide_false, Bool.not_true, Bool.not_false, Bool.and_self, Bool.and_true, Bool.and_false, Bool.true_and, Bool.false_and, Bool.or_true, Bool.or_false, Bool.true_or, Bool.false_or, if_true, if_false, Bool.false_eq_true]
    rw [← q1]
    simp only [g1, bd_298, k_16, k_4294967295, nz_16, v_and, v_bin, v_call, v_cmp, v_cons, v_int, v_loc, v_mat, v_nil, v_or, w_ret, List.getElem?_cons_zero, List.getElem?_cons_succ, List.set_cons_zero, List.set_cons_succ, ee_cmp0, ee_cmp1, ee_cmp2, ee_cmp3, ee_cmp4, ee_cmp5, ee_cmpL0, ee_cmpL1, ee_cmpL2, ee_cmpL3, ee_cmpL4, ee_cmpL5, ee_tru_eb, decide_eq_true_eq, ib_i, ie_b, ie_f, ie_t, ib_l, fin_i, fin_l, fin_v, fin_z, fin_a, fin_n, ee_b_0, ee_fld0, ee_fld1, ee_fld2, ee_fld3, bi_0, bi_1, bi_2, bi_3, bi_4, bi_5, bi_6, bi_7, bi_8, bi_9, bi_10, bl_20, bl_21, bl_22, bl_23, bl_24, bl_25, bl_26, bl_48, bl_49, un_0, un_1, un_2, un_3, if_true, if_false, ite_true, ite_false, Bool.false_eq_true, Bool.not_eq_false, decide_not, Bool.not_not, reduceCtorEq, st_i, st_l, st_r, st_n, ee_noL, ee_noL.eq_1, List.length_cons, List.length_nil, Nat.reduceAdd, Nat.reduceLT, Nat.zero_add, and_true, true_and, and_self, fin_ite, pu_0, pu_1, pu_3, sto_0, el_0, Bool.not_eq_true, decide_eq_false_iff_not, Bool.decide_eq_true, Bool.decide_eq_false, decide_true, decide_false, Bool.not_true, Bool.not_false, Bool.and_self, Bool.and_true, Bool.and_false, Bool.true_and, Bool.false_and, Bool.or_true, Bool.or_false, Bool.true_or, Bool.false_or, if_true, if_false, Bool.false_eq_true]
  · have g1 : ¬ gcode (Int32.ofNat (p / 16)) = Int32.ofNat n := fun z => q1 (f1.1 z)
    by_cases q2 : bes p = 64
    · have q3 : ¬ 64 = tk n := by omega
      rw [q2, if_pos rfl] at e1
      simp only [rT, q1, q2, q3, g1, e1, r_codeM hd1, r_besideM hd1, e2, bd_298, k_16, k_4294967295, nz_16, v_and, v_bin, v_call, v_cmp, v_cons, v_int, v_loc, v_mat, v_nil, v_or, w_ret, List.getElem?_cons_zero, List.getElem?_cons_succ, List.set_cons_zero, List.set_cons_succ, ee_cmp0, ee_cmp1, ee_cmp2, ee_cmp3, ee_cmp4, ee_cmp5, ee_cmpL0, ee_cmpL1, ee_cmpL2, ee_cmpL3, ee_cmpL4, ee_cmpL5, ee_tru_eb, decide_eq_true_eq, ib_i, ie_b, ie_f, ie_t, ib_l, fin_i, fin_l, fin_v, fin_z, fin_a, fin_n, ee_b_0, ee_fld0, ee_fld1, ee_fld2, ee_fld3, bi_0, bi_1, bi_2, bi_3, bi_4, bi_5, bi_6, bi_7, bi_8, bi_9, bi_10, bl_20, bl_21, bl_22, bl_23, bl_24, bl_25, bl_26, bl_48, bl_49, un_0, un_1, un_2, un_3, if_true, if_false, ite_true, ite_false, Bool.false_eq_true, Bool.not_eq_false, decide_not, Bool.not_not, reduceCtorEq, st_i, st_l, st_r, st_n, ee_noL, ee_noL.eq_1, List.length_cons, List.length_nil, Nat.reduceAdd, Nat.reduceLT, Nat.zero_add, and_true, true_and, and_self, fin_ite, pu_0, pu_1, pu_3, sto_0, el_0, Bool.not_eq_true, decide_eq_false_iff_not, Bool.decide_eq_true, Bool.decide_eq_false, decide_true, decide_false, Bool.not_true, Bool.not_false, Bool.and_self, Bool.and_true, Bool.and_false, Bool.true_and, Bool.false_and, Bool.or_true, Bool.or_false, Bool.true_or, Bool.false_or, if_true, if_false, Bool.false_eq_true]
    · rw [if_neg q2] at e1
      have f2 := decide_eq_decide.1 (code_all (bes p) (by omega) n hn)
      have q4 := neg_all (bes p) (by omega)
      by_cases q3 : bes p = tk n
      · have g2 := f2.2 q3
        rw [q3] at q4 g2 e1
        simp only [rT, q1, q2, q3, q4, g1, g2, e1, r_codeM hd1, r_besideM hd1, e2, bd_298, k_16, k_4294967295, nz_16, v_and, v_bin, v_call, v_cmp, v_cons, v_int, v_loc, v_mat, v_nil, v_or, w_ret, List.getElem?_cons_zero, List.getElem?_cons_succ, List.set_cons_zero, List.set_cons_succ, ee_cmp0, ee_cmp1, ee_cmp2, ee_cmp3, ee_cmp4, ee_cmp5, ee_cmpL0, ee_cmpL1, ee_cmpL2, ee_cmpL3, ee_cmpL4, ee_cmpL5, ee_tru_eb, decide_eq_true_eq, ib_i, ie_b, ie_f, ie_t, ib_l, fin_i, fin_l, fin_v, fin_z, fin_a, fin_n, ee_b_0, ee_fld0, ee_fld1, ee_fld2, ee_fld3, bi_0, bi_1, bi_2, bi_3, bi_4, bi_5, bi_6, bi_7, bi_8, bi_9, bi_10, bl_20, bl_21, bl_22, bl_23, bl_24, bl_25, bl_26, bl_48, bl_49, un_0, un_1, un_2, un_3, if_true, if_false, ite_true, ite_false, Bool.false_eq_true, Bool.not_eq_false, decide_not, Bool.not_not, reduceCtorEq, st_i, st_l, st_r, st_n, ee_noL, ee_noL.eq_1, List.length_cons, List.length_nil, Nat.reduceAdd, Nat.reduceLT, Nat.zero_add, and_true, true_and, and_self, fin_ite, pu_0, pu_1, pu_3, sto_0, el_0, Bool.not_eq_true, decide_eq_false_iff_not, Bool.decide_eq_true, Bool.decide_eq_false, decide_true, decide_false, Bool.not_true, Bool.not_false, Bool.and_self, Bool.and_true, Bool.and_false, Bool.true_and, Bool.false_and, Bool.or_true, Bool.or_false, Bool.true_or, Bool.false_or, if_true, if_false, Bool.false_eq_true]
      · have g2 : ¬ gcode (Int32.ofNat (bes p)) = Int32.ofNat n := fun z => q3 (f2.1 z)
        simp only [rT, q1, q2, q3, q4, g1, g2, e1, r_codeM hd1, r_besideM hd1, e2, bd_298, k_16, k_4294967295, nz_16, v_and, v_bin, v_call, v_cmp, v_cons, v_int, v_loc, v_mat, v_nil, v_or, w_ret, List.getElem?_cons_zero, List.getElem?_cons_succ, List.set_cons_zero, List.set_cons_succ, ee_cmp0, ee_cmp1, ee_cmp2, ee_cmp3, ee_cmp4, ee_cmp5, ee_cmpL0, ee_cmpL1, ee_cmpL2, ee_cmpL3, ee_cmpL4, ee_cmpL5, ee_tru_eb, decide_eq_true_eq, ib_i, ie_b, ie_f, ie_t, ib_l, fin_i, fin_l, fin_v, fin_z, fin_a, fin_n, ee_b_0, ee_fld0, ee_fld1, ee_fld2, ee_fld3, bi_0, bi_1, bi_2, bi_3, bi_4, bi_5, bi_6, bi_7, bi_8, bi_9, bi_10, bl_20, bl_21, bl_22, bl_23, bl_24, bl_25, bl_26, bl_48, bl_49, un_0, un_1, un_2, un_3, if_true, if_false, ite_true, ite_false, Bool.false_eq_true, Bool.not_eq_false, decide_not, Bool.not_not, reduceCtorEq, st_i, st_l, st_r, st_n, ee_noL, ee_noL.eq_1, List.length_cons, List.length_nil, Nat.reduceAdd, Nat.reduceLT, Nat.zero_add, and_true, true_and, and_self, fin_ite, pu_0, pu_1, pu_3, sto_0, el_0, Bool.not_eq_true, decide_eq_false_iff_not, Bool.decide_eq_true, Bool.decide_eq_false, decide_true, decide_false, Bool.not_true, Bool.not_false, Bool.and_self, Bool.and_true, Bool.and_false, Bool.true_and, Bool.false_and, Bool.or_true, Bool.or_false, Bool.true_or, Bool.false_or, if_true, if_false, Bool.false_eq_true]
theorem lp_up (L : Nat) : ∀ (n s : Nat), s ≤ L → L ≤ s + n → lp (fun k => decide (k < L)) (fun k => k + 1) n s = L := by
  intro n
  induction n with
  | zero => intro s h1 h2; simp only [lp]; omega
  | succ n ih =>
    intro s h1 h2
    simp only [lp]
    by_cases q : s < L
    · rw [if_pos (decide_eq_true q)]; exact ih (s + 1) (by omega) (by omega)
    · rw [if_neg (by simpa using q)]; omega
theorem lp_dn (H : Nat) : ∀ (n s : Nat), H ≤ s → s ≤ H + n → lp (fun k => decide (H < k)) (fun k => k - 1) n s = H := by
  intro n
  induction n with
  | zero => intro s h1 h2; simp only [lp]; omega
  | succ n ih =>
    intro s h1 h2
    simp only [lp]
    by_cases q : H < s
    · rw [if_pos (decide_eq_true q)]; exact ih (s - 1) (by omega) (by omega)
    · rw [if_neg (by simpa using q)]; omega
end RI
