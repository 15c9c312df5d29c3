section RG
variable {P : Nat → Nat → List Value → ee_W → Option (List Value × ee_W)} {d : Nat} {w : ee_W} {h : Nat}
def okR (o g : Int32) : Prop := r_c o g (r_t o g) = false
theorem okR_of {o g : Int32} (h : okO o g = true) : okR o g := by
  unfold okO at h
  rw [Bool.and_eq_true] at h
  obtain ⟨h1, h2⟩ := h
  obtain ⟨m, hm, rfl⟩ := in_nat 16 (by omega) h2
  have h3 := (in_iff o (-99) 99).1 h1
  have a1 : -99 ≤ o.toInt := h3.1
  have a2 : o.toInt ≤ 99 := h3.2
  have n99 : (99 : Int32).toInt = 99 := rfl
  have e : (o + 99).toInt = o.toInt + 99 := by rw [i32_add (by omega) (by omega)]; rfl
  obtain ⟨k, q1, q2, q3⟩ := j_of (s := o + 99) (by omega)
  have e2 : o = Int32.ofNat k - 99 := by
    rw [← q2, i32_eq, i32_sub (by omega) (by omega)]
    omega
  rw [e2]
  exact re_all k (by omega) m (by omega)
def x_rest (o g : Int32) : Int32 := Int32.ofNat (r_t o g).1
theorem r_restsBy (hd : 2 ≤ d) (o g : Int32) (hk : okR o g) : ee_run ee_B P d 319 [.int o, .int g] w = some ([.int (x_rest o g)], w) := by
  obtain ⟨d, rfl⟩ : ∃ k, d = k + 1 := ⟨d - 1, by omega⟩
  have hd1 : 1 ≤ d := by omega
  rw [rn_319]
  simp only [w_while, bd_319, k_0, v_call, v_cmp, v_cons, v_int, v_loc, v_nil, w_inc, w_ret, w_seq, w_set, List.getElem?_cons_zero, List.getElem?_cons_succ, List.set_cons_zero, List.set_cons_succ, ee_cmp0, ee_cmp1, ee_cmp2, ee_cmp3, ee_cmp4, ee_cmp5, ee_cmpL0, ee_cmpL1, ee_cmpL2, ee_cmpL3, ee_cmpL4, ee_cmpL5, ee_tru_eb, decide_eq_true_eq, ib_i, ie_b, ie_f, ie_t, ib_l, fin_i, fin_l, fin_v, fin_z, fin_a, fin_n, ee_b_0, ee_fld0, ee_fld1, ee_fld2, ee_fld3, bi_0, bi_1, bi_2, bi_3, bi_4, bi_5, bi_6, bi_7, bi_8, bi_9, bi_10, bl_20, bl_21, bl_22, bl_23, bl_24, bl_25, bl_26, bl_48, bl_49, un_0, un_1, un_2, un_3, if_true, if_false, ite_true, ite_false, Bool.false_eq_true, Bool.not_eq_false, decide_not, Bool.not_not, reduceCtorEq, st_i, st_l, st_r, st_n, ee_noL, ee_noL.eq_1, List.length_cons, List.length_nil, Nat.reduceAdd, Nat.reduceLT, Nat.zero_add, and_true, true_and, and_self, fin_ite, pu_0, pu_1, pu_3, sto_0, el_0, Bool.not_eq_true, decide_eq_false_iff_not, Bool.decide_eq_true, Bool.decide_eq_false, decide_true, decide_false, Bool.not_true, Bool.not_false, Bool.and_self, Bool.and_true, Bool.and_false, Bool.true_and, Bool.false_and, Bool.or_true, Bool.or_false, Bool.true_or, Bool.false_or, if_true, if_false, Bool.false_eq_true]
  have hl := ee_wh_end (x := ee_ev es_sh es_rf (ee_run ee_B P d) (n_cmp 1 (n_call 317 (n_cons (n_loc 0 0) (n_cons (n_loc 1 0) (n_cons (n_loc 2 0) n_nil)))) (n_loc 2 0))) (b := ee_evS es_sh es_rf (ee_run ee_B P d) (s_seq 21 (s_set 2 0 (n_call 317 (n_cons (n_loc 0 0) (n_cons (n_loc 1 0) (n_cons (n_loc 2 0) n_nil))))) (s_inc 3 1)))
    (fun s : Nat × Int32 => ([some (.int o), some (.int g), some (.int s.2), some (.int (Int32.ofNat s.1))], w)) (r_c o g) (l_n o g)
    (by
      intro s
      by_cases q : l_add o g s.2 = 0
      · have q2 : s.2 + l_add o g s.2 = s.2 := by rw [q, Int32.add_zero]
        simp only [ee_turn, r_c, r_oneTurn hd1, q, q2, Int32.add_zero, bd_319, k_0, v_call, v_cmp, v_cons, v_int, v_loc, v_nil, w_inc, w_ret, w_seq, w_set, List.getElem?_cons_zero, List.getElem?_cons_succ, List.set_cons_zero, List.set_cons_succ, ee_cmp0, ee_cmp1, ee_cmp2, ee_cmp3, ee_cmp4, ee_cmp5, ee_cmpL0, ee_cmpL1, ee_cmpL2, ee_cmpL3, ee_cmpL4, ee_cmpL5, ee_tru_eb, decide_eq_true_eq, ib_i, ie_b, ie_f, ie_t, ib_l, fin_i, fin_l, fin_v, fin_z, fin_a, fin_n, ee_b_0, ee_fld0, ee_fld1, ee_fld2, ee_fld3, bi_0, bi_1, bi_2, bi_3, bi_4, bi_5, bi_6, bi_7, bi_8, bi_9, bi_10, bl_20, bl_21, bl_22, bl_23, bl_24, bl_25, bl_26, bl_48, bl_49, un_0, un_1, un_2, un_3, if_true, if_false, ite_true, ite_false, Bool.false_eq_true, Bool.not_eq_false, decide_not, Bool.not_not, reduceCtorEq, st_i, st_l, st_r, st_n, ee_noL, ee_noL.eq_1, List.length_cons, List.length_nil, Nat.reduceAdd, Nat.reduceLT, Nat.zero_add, and_true, true_and, and_self, fin_ite, pu_0, pu_1, pu_3, sto_0, el_0, Bool.not_eq_true, decide_eq_false_iff_not, Bool.decide_eq_true, Bool.decide_eq_false, decide_true, decide_false, Bool.not_true, Bool.not_false, Bool.and_self, Bool.and_true, Bool.and_false, Bool.true_and, Bool.false_and, Bool.or_true, Bool.or_false, Bool.true_or, Bool.false_or, if_true, if_false, Bool.false_eq_true]
      · have q2 : ¬ s.2 + l_add o g s.2 = s.2 := fun z => q (by
          have z2 : s.2 + l_add o g s.2 = s.2 + 0 := by rw [z, Int32.add_zero]
          exact (Int32.add_right_inj s.2).1 z2)
        simp only [ee_turn, r_c, l_n, r_oneTurn hd1, q, q2, j_s, j_a, bd_319, k_0, v_call, v_cmp, v_cons, v_int, v_loc, v_nil, w_inc, w_ret, w_seq, w_set, List.getElem?_cons_zero, List.getElem?_cons_succ, List.set_cons_zero, List.set_cons_succ, ee_cmp0, ee_cmp1, ee_cmp2, ee_cmp3, ee_cmp4, ee_cmp5, ee_cmpL0, ee_cmpL1, ee_cmpL2, ee_cmpL3, ee_cmpL4, ee_cmpL5, ee_tru_eb, decide_eq_true_eq, ib_i, ie_b, ie_f, ie_t, ib_l, fin_i, fin_l, fin_v, fin_z, fin_a, fin_n, ee_b_0, ee_fld0, ee_fld1, ee_fld2, ee_fld3, bi_0, bi_1, bi_2, bi_3, bi_4, bi_5, bi_6, bi_7, bi_8, bi_9, bi_10, bl_20, bl_21, bl_22, bl_23, bl_24, bl_25, bl_26, bl_48, bl_49, un_0, un_1, un_2, un_3, if_true, if_false, ite_true, ite_false, Bool.false_eq_true, Bool.not_eq_false, decide_not, Bool.not_not, reduceCtorEq, st_i, st_l, st_r, st_n, ee_noL, ee_noL.eq_1, List.length_cons, List.length_nil, Nat.reduceAdd, Nat.reduceLT, Nat.zero_add, and_true, true_and, and_self, fin_ite, pu_0, pu_1, pu_3, sto_0, el_0, Bool.not_eq_true, decide_eq_false_iff_not, Bool.decide_eq_true, Bool.decide_eq_false, decide_true, decide_false, Bool.not_true, Bool.not_false, Bool.and_self, Bool.and_true, Bool.and_false, Bool.true_and, Bool.false_and, Bool.or_true, Bool.or_false, Bool.true_or, Bool.false_or, if_true, if_false, Bool.false_eq_true])
    120 (0, 0) hk
  rw [show (Int32.ofNat ((0, 0) : Nat × Int32).1) = 0 from rfl] at hl
  rw [hl]
  simp only [bd_319, k_0, v_call, v_cmp, v_cons, v_int, v_loc, v_nil, w_inc, w_ret, w_seq, w_set, List.getElem?_cons_zero, List.getElem?_cons_succ, List.set_cons_zero, List.set_cons_succ, ee_cmp0, ee_cmp1, ee_cmp2, ee_cmp3, ee_cmp4, ee_cmp5, ee_cmpL0, ee_cmpL1, ee_cmpL2, ee_cmpL3, ee_cmpL4, ee_cmpL5, ee_tru_eb, decide_eq_true_eq, ib_i, ie_b, ie_f, ie_t, ib_l, fin_i, fin_l, fin_v, fin_z, fin_a, fin_n, ee_b_0, ee_fld0, ee_fld1, ee_fld2, ee_fld3, bi_0, bi_1, bi_2, bi_3, bi_4, bi_5, bi_6, bi_7, bi_8, bi_9, bi_10, bl_20, bl_21, bl_22, bl_23, bl_24, bl_25, bl_26, bl_48, bl_49, un_0, un_1, un_2, un_3, if_true, if_false, ite_true, ite_false, Bool.false_eq_true, Bool.not_eq_false, decide_not, Bool.not_not, reduceCtorEq, st_i, st_l, st_r, st_n, ee_noL, ee_noL.eq_1, List.length_cons, List.length_nil, Nat.reduceAdd, Nat.reduceLT, Nat.zero_add, and_true, true_and, and_self, fin_ite, pu_0, pu_1, pu_3, sto_0, el_0, Bool.not_eq_true, decide_eq_false_iff_not, Bool.decide_eq_true, Bool.decide_eq_false, decide_true, decide_false, Bool.not_true, Bool.not_false, Bool.and_self, Bool.and_true, Bool.and_false, Bool.true_and, Bool.false_and, Bool.or_true, Bool.or_false, Bool.true_or, Bool.false_or, if_true, if_false, Bool.false_eq_true]
  rfl
def re_n (o g : Int32) (s : Nat × Int32) : (Nat × Int32) ⊕ Nat := if l_add o g s.2 = 0 then .inr s.1 else .inl (l_n o g s)
theorem re_lp (o g : Int32) : ∀ n (s : Nat × Int32), s.1 + n < 999 → r_c o g (lp (r_c o g) (l_n o g) n s) = false → ∀ m, n < m → lpR (fun s => decide (s.1 < 999)) (re_n o g) m s = .inr (lp (r_c o g) (l_n o g) n s).1 := by
  intro n
  induction n with
  | zero =>
    intro s h1 h2 m hm
    obtain ⟨m, rfl⟩ : ∃ k, m = k + 1 := ⟨m - 1, by omega⟩
    simp only [lp, r_c, Bool.not_eq_false', decide_eq_true_eq] at h2
    simp only [lpR, lp, re_n]
    rw [if_pos (decide_eq_true (by omega)), if_pos (of_decide_eq_true h2)]
  | succ n ih =>
    intro s h1 h2 m hm
    obtain ⟨m, rfl⟩ : ∃ k, m = k + 1 := ⟨m - 1, by omega⟩
    simp only [lpR, re_n]
    rw [if_pos (decide_eq_true (by omega))]
    by_cases q : l_add o g s.2 = 0
    · have e : r_c o g s = false := by simp only [r_c, q, decide_true, Bool.not_true]
      simp only [lp, e, q, if_true, if_false, Bool.false_eq_true]
    · have e : r_c o g s = true := by simp only [r_c, q, decide_false, Bool.not_false]
      simp only [lp, e, q, if_true, if_false] at h2 ⊢
      exact ih _ (by show s.1 + 1 + n < 999; omega) h2 m (by omega)
def re_3 (o g : Int32) (s : Nat × Int32 × Option Value) : (Nat × Int32 × Option Value) ⊕ Nat := match re_n o g (s.1, s.2.1) with | .inr k => .inr k | .inl r => .inl (r.1, r.2, some (.int (l_add o g s.2.1)))
theorem re_ext (o g : Int32) : ∀ m (s : Nat × Int32 × Option Value) r, lpR (fun s : Nat × Int32 => decide (s.1 < 999)) (re_n o g) m (s.1, s.2.1) = .inr r → lpR (fun s : Nat × Int32 × Option Value => decide (s.1 < 999)) (re_3 o g) m s = .inr r := by
  intro m
  induction m with
  | zero => intro s r h; simp only [lpR] at h; cases h
  | succ m ih =>
    intro s r h
    simp only [lpR] at h ⊢
    by_cases q : s.1 < 999
    · rw [if_pos (decide_eq_true q)] at h ⊢
      cases hn : re_n o g (s.1, s.2.1) with
      | inr k => rw [hn] at h; simp only [re_3, hn]; cases h; rfl
      | inl r2 => rw [hn] at h; simp only [re_3, hn]; exact ih (r2.1, r2.2, _) r h
    · rw [if_neg (by simpa using q)] at h; cases h
theorem r_restOf (hd : 1 ≤ d) (o g : Int32) (hk : okR o g) : ee_run ee_B P d 147 [.int o, .int g] w = some ([.int (x_rest o g)], w) := by
  obtain ⟨d, rfl⟩ : ∃ k, d = k + 1 := ⟨d - 1, by omega⟩
  rw [rn_147]
  simp only [w_while, bd_147, k_0, k_16, k_999, nz_16, nz_999, v_bin, v_cmp, v_int, v_loc, v_z, w_if, w_inc, w_ret, w_seq, w_set, List.getElem?_cons_zero, List.getElem?_cons_succ, List.set_cons_zero, List.set_cons_succ, ee_cmp0, ee_cmp1, ee_cmp2, ee_cmp3, ee_cmp4, ee_cmp5, ee_cmpL0, ee_cmpL1, ee_cmpL2, ee_cmpL3, ee_cmpL4, ee_cmpL5, ee_tru_eb, decide_eq_true_eq, ib_i, ie_b, ie_f, ie_t, ib_l, fin_i, fin_l, fin_v, fin_z, fin_a, fin_n, ee_b_0, ee_fld0, ee_fld1, ee_fld2, ee_fld3, bi_0, bi_1, bi_2, bi_3, bi_4, bi_5, bi_6, bi_7, bi_8, bi_9, bi_10, bl_20, bl_21, bl_22, bl_23, bl_24, bl_25, bl_26, bl_48, bl_49, un_0, un_1, un_2, un_3, if_true, if_false, ite_true, ite_false, Bool.false_eq_true, Bool.not_eq_false, decide_not, Bool.not_not, reduceCtorEq, st_i, st_l, st_r, st_n, ee_noL, ee_noL.eq_1, List.length_cons, List.length_nil, Nat.reduceAdd, Nat.reduceLT, Nat.zero_add, and_true, true_and, and_self, fin_ite, pu_0, pu_1, pu_3, sto_0, el_0, Bool.not_eq_true, decide_eq_false_iff_not, Bool.decide_eq_true, Bool.decide_eq_false, decide_true, decide_false, Bool.not_true, Bool.not_false, Bool.and_self, Bool.and_true, Bool.and_false, Bool.true_and, Bool.false_and, Bool.or_true, Bool.or_false, Bool.true_or, Bool.false_or, if_true, if_false, Bool.false_eq_true]
  have hl := ee_wh_lpR (x := ee_ev es_sh es_rf (ee_run ee_B P d) (n_cmp 2 (n_loc 3 0) (n_int 999))) (b := ee_evS es_sh es_rf (ee_run ee_B P d) (s_seq 33 (s_seq 21 (s_set 4 0 (n_bin 3 (n_bin 2 (n_bin 1 (n_loc 0 0) (n_loc 2 0)) (n_loc 1 0)) (n_int 16))) (s_if 26 28 (n_z 0 (n_loc 4 0)) (s_ret 0 (n_loc 3 0)) (s_set 2 0 (n_bin 0 (n_loc 2 0) (n_loc 4 0))))) (s_inc 3 1)))
    (fun s : Nat × Int32 × Option Value => ([some (.int o), some (.int g), some (.int s.2.1), some (.int (Int32.ofNat s.1)), s.2.2], w)) (fun k : Nat => ([.int (Int32.ofNat k)], w)) (fun s => decide (s.1 < 999)) (re_3 o g) (fun s => s.1 ≤ 999) (fun s => 999 - s.1)
    (by
      intro s hi
      have hi : s.1 ≤ 999 := hi
      have h9 : (Int32.ofNat s.1 < 999) ↔ s.1 < 999 := j_lt (b := 999) (by omega) (by omega)
      by_cases q : s.1 < 999
      · by_cases q2 : (o - s.2.1) * g / 16 = 0 <;> simp only [ee_turn, re_3, re_n, l_n, l_add, h9, q, q2, j_s, j_a, bd_147, k_0, k_16, k_999, nz_16, nz_999, v_bin, v_cmp, v_int, v_loc, v_z, w_if, w_inc, w_ret, w_seq, w_set, List.getElem?_cons_zero, List.getElem?_cons_succ, List.set_cons_zero, List.set_cons_succ, ee_cmp0, ee_cmp1, ee_cmp2, ee_cmp3, ee_cmp4, ee_cmp5, ee_cmpL0, ee_cmpL1, ee_cmpL2, ee_cmpL3, ee_cmpL4, ee_cmpL5, ee_tru_eb, decide_eq_true_eq, ib_i, ie_b, ie_f, ie_t, ib_l, fin_i, fin_l, fin_v, fin_z, fin_a, fin_n, ee_b_0, ee_fld0, ee_fld1, ee_fld2, ee_fld3, bi_0, bi_1, bi_2, bi_3, bi_4, bi_5, bi_6, bi_7, bi_8, bi_9, bi_10, bl_20, bl_21, bl_22, bl_23, bl_24, bl_25, bl_26, bl_48, bl_49, un_0, un_1, un_2, un_3, if_true, if_false, ite_true, ite_false, Bool.false_eq_true, Bool.not_eq_false, decide_not, Bool.not_not, reduceCtorEq, st_i, st_l, st_r, st_n, ee_noL, ee_noL.eq_1, List.length_cons, List.length_nil, Nat.reduceAdd, Nat.reduceLT, Nat.zero_add, and_true, true_and, and_self, fin_ite, pu_0, pu_1, pu_3, sto_0, el_0, Bool.not_eq_true, decide_eq_false_iff_not, Bool.decide_eq_true, Bool.decide_eq_false, decide_true, decide_false, Bool.not_true, Bool.not_false, Bool.and_self, Bool.and_true, Bool.and_false, Bool.true_and, Bool.false_and, Bool.or_true, Bool.or_false, Bool.true_or, Bool.false_or, if_true, if_false, Bool.false_eq_true]
      · simp only [ee_turn, h9, q, bd_147, k_0, k_16, k_999, nz_16, nz_999, v_bin, v_cmp, v_int, v_loc, v_z, w_if, w_inc, w_ret, w_seq, w_set, List.getElem?_cons_zero, List.getElem?_cons_succ, List.set_cons_zero, List.set_cons_succ, ee_cmp0, ee_cmp1, ee_cmp2, ee_cmp3, ee_cmp4, ee_cmp5, ee_cmpL0, ee_cmpL1, ee_cmpL2, ee_cmpL3, ee_cmpL4, ee_cmpL5, ee_tru_eb, decide_eq_true_eq, ib_i, ie_b, ie_f, ie_t, ib_l, fin_i, fin_l, fin_v, fin_z, fin_a, fin_n, ee_b_0, ee_fld0, ee_fld1, ee_fld2, ee_fld3, bi_0, bi_1, bi_2, bi_3, bi_4, bi_5, bi_6, bi_7, bi_8, bi_9, bi_10, bl_20, bl_21, bl_22, bl_23, bl_24, bl_25, bl_26, bl_48, bl_49, un_0, un_1, un_2, un_3, if_true, if_false, ite_true, ite_false, Bool.false_eq_true, Bool.not_eq_false, decide_not, Bool.not_not, reduceCtorEq, st_i, st_l, st_r, st_n, ee_noL, ee_noL.eq_1, List.length_cons, List.length_nil, Nat.reduceAdd, Nat.reduceLT, Nat.zero_add, and_true, true_and, and_self, fin_ite, pu_0, pu_1, pu_3, sto_0, el_0, Bool.not_eq_true, decide_eq_false_iff_not, Bool.decide_eq_true, Bool.decide_eq_false, decide_true, decide_false, Bool.not_true, Bool.not_false, Bool.and_self, Bool.and_true, Bool.and_false, Bool.true_and, Bool.false_and, Bool.or_true, Bool.or_false, Bool.true_or, Bool.false_or, if_true, if_false, Bool.false_eq_true])
    (by
      intro s s' hi hc hn
      simp only [decide_eq_true_eq] at hc
      simp only [re_3, re_n] at hn
      split at hn
      · cases hn
      · rename_i heq
        split at heq
        · cases heq
        · cases heq; cases hn; show s.1 + 1 ≤ 999; omega)
    (by
      intro s s' hi hc hn
      simp only [decide_eq_true_eq] at hc
      simp only [re_3, re_n] at hn
      split at hn
      · cases hn
      · rename_i heq
        split at heq
        · cases heq
        · cases heq; cases hn; show 999 - (s.1 + 1) < 999 - s.1; omega)
    1000 (0, 0, none) (Nat.zero_le _) (Nat.le_of_ble_eq_true rfl)
  rw [show (Int32.ofNat ((0, 0, none) : Nat × Int32 × Option Value).1) = 0 from rfl] at hl
  rw [hl, re_ext o g 1000 (0, 0, none) _ (re_lp o g 120 (0, 0) (by decide) hk 1000 (by omega))]
  simp only [bd_147, k_0, k_16, k_999, nz_16, nz_999, v_bin, v_cmp, v_int, v_loc, v_z, w_if, w_inc, w_ret, w_seq, w_set, List.getElem?_cons_zero, List.getElem?_cons_succ, List.set_cons_zero, List.set_cons_succ, ee_cmp0, ee_cmp1, ee_cmp2, ee_cmp3, ee_cmp4, ee_cmp5, ee_cmpL0, ee_cmpL1, ee_cmpL2, ee_cmpL3, ee_cmpL4, ee_cmpL5, ee_tru_eb, decide_eq_true_eq, ib_i, ie_b, ie_f, ie_t, ib_l, fin_i, fin_l, fin_v, fin_z, fin_a, fin_n, ee_b_0, ee_fld0, ee_fld1, ee_fld2, ee_fld3, bi_0, bi_1, bi_2, bi_3, bi_4, bi_5, bi_6, bi_7, bi_8, bi_9, bi_10, bl_20, bl_21, bl_22, bl_23, bl_24, bl_25, bl_26, bl_48, bl_49, un_0, un_1, un_2, un_3, if_true, if_false, ite_true, ite_false, Bool.false_eq_true, Bool.not_eq_false, decide_not, Bool.not_not, reduceCtorEq, st_i, st_l, st_r, st_n, ee_noL, ee_noL.eq_1, List.length_cons, List.length_nil, Nat.reduceAdd, Nat.reduceLT, Nat.zero_add, and_true, true_and, and_self, fin_ite, pu_0, pu_1, pu_3, sto_0, el_0, Bool.not_eq_true, decide_eq_false_iff_not, Bool.decide_eq_true, Bool.decide_eq_false, decide_true, decide_false, Bool.not_true, Bool.not_false, Bool.and_self, Bool.and_true, Bool.and_false, Bool.true_and, Bool.false_and, Bool.or_true, Bool.or_false, Bool.true_or, Bool.false_or, if_true, if_false, Bool.false_eq_true]
  rfl
end RG
