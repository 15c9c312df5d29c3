/-! a head moves -/
section HM
variable {P : Nat → Nat → List Value → ee_W → Option (List Value × ee_W)} {d : Nat} {w : ee_W} {h : Nat} {X : HX}
def inS (a b c : Int32) : Bool := decide (b ≤ a) && decide (a ≤ c)
def xm_v (X : HX) (p : Int32) : Int32 := hold32 (X.1 3 + p) (-64) 64
def xm_n (X : HX) (p : Int32) : Int32 := X.1 2 + xm_v X p
def xm_1 (X : HX) (p : Int32) : HX := (up (up X.1 3 (xm_v X p)) 2 (hold32 (xm_n X p) 0 1023), X.2)
def xmin (a b : Int32) : Int32 := if a ≤ b then a else b
def xm_2 (X : HX) (p : Int32) : HX := if ¬ xm_n X p = hold32 (xm_n X p) 0 1023 then xnote (up (up (xm_1 X p).1 3 0) 8 (xmin (X.1 8 + 1) 9999), X.2) 4 (hold32 (xm_n X p) 0 1023) else xm_1 X p
def xcalm (X : HX) : Bool := inS (X.1 5) (-3) 3 && inS (X.1 3) (-1) 1
def xm_3 (X : HX) : HX := (up X.1 6 (if xcalm X = true then xmin (X.1 6 + 1) 99 else 0), X.2)
def xm_4 (X : HX) : HX := if (xcalm X && decide (X.1 6 = 2)) = true then xnote (xm_3 X) 3 (X.1 4) else xm_3 X
def xm_5 (X : HX) : HX := (up X.1 0 (X.1 0 + 1), X.2)
def xmove (X : HX) (p : Int32) : HX := xm_5 (xm_4 (xm_2 X p))
theorem xnote_le2 (f : Nat → Int32) (Y : Nat × (Nat → Int32 × Int32 × Int32)) (hn : Y.1 ≤ 25) (a b : Int32) : (xnote (f, Y) a b).2.1 ≤ 25 := xnote_le (X := (f, Y)) hn a b
theorem xm_2_le (hn : X.2.1 ≤ 25) (p : Int32) : (xm_2 X p).2.1 ≤ 25 := by
  unfold xm_2
  split
  · exact xnote_le2 _ _ hn _ _
  · exact hn
theorem xm_4_le (hn : X.2.1 ≤ 25) : (xm_4 X).2.1 ≤ 25 := by
  unfold xm_4
  split
  · exact xnote_le2 _ _ hn _ _
  · exact hn
theorem xm_5_2 (X : HX) : (xm_5 X).2 = X.2 := rfl
theorem xmove_le (hn : X.2.1 ≤ 25) (p : Int32) : (xmove X p).2.1 ≤ 25 := by
  unfold xmove
  rw [xm_5_2]
  exact xm_4_le (xm_2_le hn p)
def mv_rest : ee_T := (s_seq 108 (s_set 3 0 (n_mat (n_and (n_z 1 (n_call 10 (n_cons (n_get 2 3 0 (n_loc 0 2)) (n_cons (n_int 4294967293) (n_cons (n_int 3) n_nil))))) (n_z 1 (n_call 10 (n_cons (n_get 2 1 0 (n_loc 0 2)) (n_cons (n_int 4294967295) (n_cons (n_int 1) n_nil)))))))) (s_seq 127 (s_set 4 0 (n_mat (n_and (n_z 1 (n_loc 3 0)) (n_cmp 0 (n_get 2 4 0 (n_loc 0 2)) (n_int 2))))) (s_seq 150 (s_put 2 4 0 (n_loc 0 2) (n_tern (n_z 1 (n_loc 3 0)) (n_call 18 (n_cons (n_bin 0 (n_get 2 4 0 (n_loc 0 2)) (n_int 1)) (n_cons (n_int 99) n_nil))) (n_int 0))) (s_seq 164 (s_if 155 164 (n_z 1 (n_loc 4 0)) (s_exp 0 (n_call 70 (n_cons (n_loc 0 2) (n_cons (n_int 3) (n_cons (n_get 2 2 0 (n_loc 0 2)) n_nil))))) s_skip) (s_seq 174 (s_opf 2 7 0 0 (n_loc 0 2) (n_int 1)) s_retv)))))
theorem c_move2 (hd1 : 1 ≤ d) (hd2 : 2 ≤ d) (hh : hd_ok h) (k1 : CH w h X) (hn : X.2.1 ≤ 25) (p n : Int32) : ∃ w', ee_fin none (ee_evS es_sh es_rf (ee_run ee_B P d) mv_rest 0 [some (.ref h), some (.int p), some (.int n), none, none] w) = some ([], w') ∧ CH w' h (xm_5 (xm_4 X)) ∧ chg (hrg h) w w' := by
  have s0 := hh.1
  have k4 := k1
  obtain ⟨⟨b0, b1, b2, b3, b4, b5, b6, b7, b8⟩, -, -, -⟩ := k4
  have i1 : (decide (-3 ≤ X.1 5) && decide (X.1 5 ≤ 3)) = inS (X.1 5) (-3) 3 := rfl
  have i2 : (decide (-1 ≤ X.1 3) && decide (X.1 3 ≤ 1)) = inS (X.1 3) (-1) 1 := rfl
  have em : (if X.1 6 + 1 ≤ 99 then X.1 6 + 1 else 99) = xmin (X.1 6 + 1) 99 := rfl
  cases c : xcalm X
  · have hc : (inS (X.1 5) (-3) 3 && inS (X.1 3) (-1) 1) = false := c
    refine ⟨ee_wI (ee_wI w h 4 0) h 7 (X.1 0 + 1), ?_, ?_, (chg_I (hrg_0 h) (chg_I (hrg_0 h) (chg_refl _ _)))⟩
    · cases c1 : inS (X.1 5) (-3) 3 <;> cases c2 : inS (X.1 3) (-1) 1 <;> rw [c1, c2] at hc <;> first | (cases hc; done) | simp only [r_within hd1, s0, b0, b3, b5, i1, i2, c1, c2, zz_ce, zz_ec, zz_cf, zz_fc, zz_ef, zz_fe, wI_at, wI_2, wJ_at, wJ_1, wJ_2, and_true, true_and, and_false, false_and, if_true, if_false, Nat.reduceEqDiff, Nat.reduceAdd, zero_ne_one_n, one_ne_zero_n, mv_rest, bd_100, k_0, k_1, k_1023, k_2, k_3, k_4, k_4294967232, k_4294967293, k_4294967295, k_64, k_99, k_9999, nz_1, nz_1023, nz_2, nz_3, nz_4, nz_64, nz_99, nz_9999, v_and, v_bin, v_call, v_cmp, v_cons, v_get, v_int, v_loc, v_mat, v_nil, v_tern, v_z, w_exp0, w_exp1, w_if, w_opf, w_put, w_retv, w_seq, w_set, w_skip, List.getElem?_cons_zero, List.getElem?_cons_succ, List.set_cons_zero, List.set_cons_succ, ee_cmp0, ee_cmp1, ee_cmp2, ee_cmp3, ee_cmp4, ee_cmp5, ee_cmpL0, ee_cmpL1, ee_cmpL2, ee_cmpL3, ee_cmpL4, ee_cmpL5, ee_tru_eb, decide_eq_true_eq, ib_i, ie_b, ie_f, ie_t, ib_l, fin_i, fin_l, fin_v, fin_z, fin_a, fin_n, ee_b_0, ee_fld0, ee_fld1, ee_fld2, ee_fld3, bi_0, bi_1, bi_2, bi_3, bi_4, bi_5, bi_6, bi_7, bi_8, bi_9, bi_10, bl_20, bl_21, bl_22, bl_23, bl_24, bl_25, bl_26, bl_48, bl_49, un_0, un_1, un_2, un_3, if_true, if_false, ite_true, ite_false, Bool.false_eq_true, Bool.not_eq_false, decide_not, Bool.not_not, reduceCtorEq, st_i, st_l, st_r, st_n, ee_noL, ee_noL.eq_1, List.length_cons, List.length_nil, Nat.reduceAdd, Nat.reduceLT, Nat.zero_add, and_true, true_and, and_self, fin_ite, pu_0, pu_1, pu_3, sto_0, el_0, Bool.not_eq_true, decide_eq_false_iff_not, Bool.decide_eq_true, Bool.decide_eq_false, decide_true, decide_false, Bool.not_true, Bool.not_false, Bool.and_self, Bool.and_true, Bool.and_false, Bool.true_and, Bool.false_and, Bool.or_true, Bool.or_false, Bool.true_or, Bool.false_or, if_true, if_false, Bool.false_eq_true]
    · have e3 : xm_3 X = (up X.1 6 0, X.2) := by unfold xm_3; rw [c]; rfl
      have e4 : xm_4 X = xm_3 X := by unfold xm_4; rw [c]; rfl
      rw [e4, e3]
      exact CH_put (CH_put k1 4 (by omega) 0) 7 (by omega) _
  · have hc : (inS (X.1 5) (-3) 3 && inS (X.1 3) (-1) 1) = true := c
    rw [Bool.and_eq_true] at hc
    have e3 : xm_3 X = (up X.1 6 (xmin (X.1 6 + 1) 99), X.2) := by unfold xm_3; rw [c]; rfl
    have k5 := CH_put k1 4 (by omega) (xmin (X.1 6 + 1) 99)
    by_cases o : X.1 6 = 2
    · have e4 : xm_4 X = xnote (xm_3 X) 3 (X.1 4) := by unfold xm_4; rw [c, decide_eq_true o]; rfl
      rw [e3] at e4
      obtain ⟨w', n1, n2, n3⟩ := c_note (P := P) hd2 hh k5 (hn) 3 (X.1 4)
      rw [o] at em n1
      have em2 : (if (2 : Int32) + 1 ≤ 99 then (2 : Int32) + 1 else 99) = xmin (2 + 1) 99 := rfl
      refine ⟨ee_wI w' h 7 (w'.1 h 7 + 1), ?_, ?_, (chg_trans (chg_I (hrg_0 h) (chg_refl _ _)) (chg_I (hrg_0 h) n3))⟩
      · simp only [r_within hd1, r_min hd1, s0, b0, b3, b4, b5, b6, i1, i2, hc.1, hc.2, o, em2, n1, zz_ce, zz_ec, zz_cf, zz_fc, zz_ef, zz_fe, wI_at, wI_2, wJ_at, wJ_1, wJ_2, and_true, true_and, and_false, false_and, if_true, if_false, Nat.reduceEqDiff, Nat.reduceAdd, zero_ne_one_n, one_ne_zero_n, mv_rest, bd_100, k_0, k_1, k_1023, k_2, k_3, k_4, k_4294967232, k_4294967293, k_4294967295, k_64, k_99, k_9999, nz_1, nz_1023, nz_2, nz_3, nz_4, nz_64, nz_99, nz_9999, v_and, v_bin, v_call, v_cmp, v_cons, v_get, v_int, v_loc, v_mat, v_nil, v_tern, v_z, w_exp0, w_exp1, w_if, w_opf, w_put, w_retv, w_seq, w_set, w_skip, List.getElem?_cons_zero, List.getElem?_cons_succ, List.set_cons_zero, List.set_cons_succ, ee_cmp0, ee_cmp1, ee_cmp2, ee_cmp3, ee_cmp4, ee_cmp5, ee_cmpL0, ee_cmpL1, ee_cmpL2, ee_cmpL3, ee_cmpL4, ee_cmpL5, ee_tru_eb, decide_eq_true_eq, ib_i, ie_b, ie_f, ie_t, ib_l, fin_i, fin_l, fin_v, fin_z, fin_a, fin_n, ee_b_0, ee_fld0, ee_fld1, ee_fld2, ee_fld3, bi_0, bi_1, bi_2, bi_3, bi_4, bi_5, bi_6, bi_7, bi_8, bi_9, bi_10, bl_20, bl_21, bl_22, bl_23, bl_24, bl_25, bl_26, bl_48, bl_49, un_0, un_1, un_2, un_3, if_true, if_false, ite_true, ite_false, Bool.false_eq_true, Bool.not_eq_false, decide_not, Bool.not_not, reduceCtorEq, st_i, st_l, st_r, st_n, ee_noL, ee_noL.eq_1, List.length_cons, List.length_nil, Nat.reduceAdd, Nat.reduceLT, Nat.zero_add, and_true, true_and, and_self, fin_ite, pu_0, pu_1, pu_3, sto_0, el_0, Bool.not_eq_true, decide_eq_false_iff_not, Bool.decide_eq_true, Bool.decide_eq_false, decide_true, decide_false, Bool.not_true, Bool.not_false, Bool.and_self, Bool.and_true, Bool.and_false, Bool.true_and, Bool.false_and, Bool.or_true, Bool.or_false, Bool.true_or, Bool.false_or, if_true, if_false, Bool.false_eq_true]
      · rw [e4]
        have n4 := CH_put n2 7 (by omega) (w'.1 h 7 + 1)
        rw [n2.1.1] at n4 ⊢
        exact n4
    · have e4 : xm_4 X = xm_3 X := by unfold xm_4; rw [c, decide_eq_false o]; rfl
      refine ⟨ee_wI (ee_wI w h 4 (xmin (X.1 6 + 1) 99)) h 7 (X.1 0 + 1), ?_, ?_, (chg_I (hrg_0 h) (chg_I (hrg_0 h) (chg_refl _ _)))⟩
      · simp only [r_within hd1, r_min hd1, s0, b0, b3, b4, b5, b6, i1, i2, hc.1, hc.2, o, em, zz_ce, zz_ec, zz_cf, zz_fc, zz_ef, zz_fe, wI_at, wI_2, wJ_at, wJ_1, wJ_2, and_true, true_and, and_false, false_and, if_true, if_false, Nat.reduceEqDiff, Nat.reduceAdd, zero_ne_one_n, one_ne_zero_n, mv_rest, bd_100, k_0, k_1, k_1023, k_2, k_3, k_4, k_4294967232, k_4294967293, k_4294967295, k_64, k_99, k_9999, nz_1, nz_1023, nz_2, nz_3, nz_4, nz_64, nz_99, nz_9999, v_and, v_bin, v_call, v_cmp, v_cons, v_get, v_int, v_loc, v_mat, v_nil, v_tern, v_z, w_exp0, w_exp1, w_if, w_opf, w_put, w_retv, w_seq, w_set, w_skip, List.getElem?_cons_zero, List.getElem?_cons_succ, List.set_cons_zero, List.set_cons_succ, ee_cmp0, ee_cmp1, ee_cmp2, ee_cmp3, ee_cmp4, ee_cmp5, ee_cmpL0, ee_cmpL1, ee_cmpL2, ee_cmpL3, ee_cmpL4, ee_cmpL5, ee_tru_eb, decide_eq_true_eq, ib_i, ie_b, ie_f, ie_t, ib_l, fin_i, fin_l, fin_v, fin_z, fin_a, fin_n, ee_b_0, ee_fld0, ee_fld1, ee_fld2, ee_fld3, bi_0, bi_1, bi_2, bi_3, bi_4, bi_5, bi_6, bi_7, bi_8, bi_9, bi_10, bl_20, bl_21, bl_22, bl_23, bl_24, bl_25, bl_26, bl_48, bl_49, un_0, un_1, un_2, un_3, if_true, if_false, ite_true, ite_false, Bool.false_eq_true, Bool.not_eq_false, decide_not, Bool.not_not, reduceCtorEq, st_i, st_l, st_r, st_n, ee_noL, ee_noL.eq_1, List.length_cons, List.length_nil, Nat.reduceAdd, Nat.reduceLT, Nat.zero_add, and_true, true_and, and_self, fin_ite, pu_0, pu_1, pu_3, sto_0, el_0, Bool.not_eq_true, decide_eq_false_iff_not, Bool.decide_eq_true, Bool.decide_eq_false, decide_true, decide_false, Bool.not_true, Bool.not_false, Bool.and_self, Bool.and_true, Bool.and_false, Bool.true_and, Bool.false_and, Bool.or_true, Bool.or_false, Bool.true_or, Bool.false_or, if_true, if_false, Bool.false_eq_true]
      · rw [e4, e3]
        exact CH_put k5 7 (by omega) _
theorem c_move (hd : 3 ≤ d) (hh : hd_ok h) (hX : CH w h X) (hn : X.2.1 ≤ 25) (p : Int32) : ∃ w', ee_run ee_B P d 100 [.ref h, .int p] w = some ([], w') ∧ CH w' h (xmove X p) ∧ chg (hrg h) w w' := by
  obtain ⟨d, rfl⟩ : ∃ k, d = k + 1 := ⟨d - 1, by omega⟩
  have hd1 : 1 ≤ d := by omega
  have hd2 : 2 ≤ d := by omega
  have s0 := hh.1
  have ev : hold32 (X.1 3 + p) (-64) 64 = xm_v X p := rfl
  have en : X.1 2 + xm_v X p = xm_n X p := rfl
  have hX1 := CH_put (CH_put hX 1 (by omega) (xm_v X p)) 0 (by omega) (hold32 (xm_n X p) 0 1023)
  have hX2 := hX
  obtain ⟨⟨a0, a1, a2, a3, a4, a5, a6, a7, a8⟩, -, -, -⟩ := hX2
  have key : ∃ w2, CH w2 h (xm_2 X p) ∧ chg (hrg h) w w2 ∧ ∀ rest : ee_T, ee_fin none (ee_evS es_sh es_rf (ee_run ee_B P d) (s_seq 17 (s_put 2 1 0 (n_loc 0 2) (n_call 73 (n_cons (n_bin 0 (n_get 2 1 0 (n_loc 0 2)) (n_loc 1 0)) (n_cons (n_int 4294967232) (n_cons (n_int 64) n_nil))))) (s_seq 27 (s_set 2 0 (n_bin 0 (n_get 2 0 0 (n_loc 0 2)) (n_get 2 1 0 (n_loc 0 2)))) (s_seq 39 (s_put 2 0 0 (n_loc 0 2) (n_call 73 (n_cons (n_loc 2 0) (n_cons (n_int 0) (n_cons (n_int 1023) n_nil))))) (s_seq 77 (s_if 47 77 (n_cmp 1 (n_loc 2 0) (n_get 2 0 0 (n_loc 0 2))) (s_seq 52 (s_put 2 1 0 (n_loc 0 2) (n_int 0)) (s_seq 68 (s_put 2 6 0 (n_loc 0 2) (n_call 18 (n_cons (n_bin 0 (n_get 2 6 0 (n_loc 0 2)) (n_int 1)) (n_cons (n_int 9999) n_nil)))) (s_exp 0 (n_call 70 (n_cons (n_loc 0 2) (n_cons (n_int 4) (n_cons (n_get 2 0 0 (n_loc 0 2)) n_nil))))))) s_skip) rest)))) 0 [some (.ref h), some (.int p), none, none, none] w) = ee_fin none (ee_evS es_sh es_rf (ee_run ee_B P d) rest 0 [some (.ref h), some (.int p), some (.int (xm_n X p)), none, none] w2) := by
    by_cases q : xm_n X p = hold32 (xm_n X p) 0 1023
    · refine ⟨ee_wI (ee_wI w h 1 (xm_v X p)) h 0 (hold32 (xm_n X p) 0 1023), ?_, chg_I (hrg_0 h) (chg_I (hrg_0 h) (chg_refl _ _)), fun rest => ?_⟩
      rotate_left 1
      · simp only [c_hold hd2, s0, a2, a3, ev, en, zz_ce, zz_ec, zz_cf, zz_fc, zz_ef, zz_fe, wI_at, wI_2, wJ_at, wJ_1, wJ_2, and_true, true_and, and_false, false_and, if_true, if_false, Nat.reduceEqDiff, Nat.reduceAdd, zero_ne_one_n, one_ne_zero_n, bd_100, k_0, k_1, k_1023, k_2, k_3, k_4, k_4294967232, k_4294967293, k_4294967295, k_64, k_99, k_9999, nz_1, nz_1023, nz_2, nz_3, nz_4, nz_64, nz_99, nz_9999, v_and, v_bin, v_call, v_cmp, v_cons, v_get, v_int, v_loc, v_mat, v_nil, v_tern, v_z, w_exp0, w_exp1, w_if, w_opf, w_put, w_retv, w_seq, w_set, w_skip, List.getElem?_cons_zero, List.getElem?_cons_succ, List.set_cons_zero, List.set_cons_succ, ee_cmp0, ee_cmp1, ee_cmp2, ee_cmp3, ee_cmp4, ee_cmp5, ee_cmpL0, ee_cmpL1, ee_cmpL2, ee_cmpL3, ee_cmpL4, ee_cmpL5, ee_tru_eb, decide_eq_true_eq, ib_i, ie_b, ie_f, ie_t, ib_l, fin_i, fin_l, fin_v, fin_z, fin_a, fin_n, ee_b_0, ee_fld0, ee_fld1, ee_fld2, ee_fld3, bi_0, bi_1, bi_2, bi_3, bi_4, bi_5, bi_6, bi_7, bi_8, bi_9, bi_10, bl_20, bl_21, bl_22, bl_23, bl_24, bl_25, bl_26, bl_48, bl_49, un_0, un_1, un_2, un_3, if_true, if_false, ite_true, ite_false, Bool.false_eq_true, Bool.not_eq_false, decide_not, Bool.not_not, reduceCtorEq, st_i, st_l, st_r, st_n, ee_noL, ee_noL.eq_1, List.length_cons, List.length_nil, Nat.reduceAdd, Nat.reduceLT, Nat.zero_add, and_true, true_and, and_self, fin_ite, pu_0, pu_1, pu_3, sto_0, el_0, Bool.not_eq_true, decide_eq_false_iff_not, Bool.decide_eq_true, Bool.decide_eq_false, decide_true, decide_false, Bool.not_true, Bool.not_false, Bool.and_self, Bool.and_true, Bool.and_false, Bool.true_and, Bool.false_and, Bool.or_true, Bool.or_false, Bool.true_or, Bool.false_or, if_true, if_false, Bool.false_eq_true]
        rw [if_neg (by simpa using q)]
      · have : xm_2 X p = xm_1 X p := by unfold xm_2; rw [if_neg (fun z => z q)]
        rw [this]
        exact hX1
    · have hX3 := CH_put (CH_put hX1 1 (by omega) 0) 6 (by omega) (xmin (X.1 8 + 1) 9999)
      obtain ⟨w', n1, n2, n3⟩ := c_note (P := P) hd2 hh hX3 hn 4 (hold32 (xm_n X p) 0 1023)
      refine ⟨w', ?_, chg_trans (chg_I (hrg_0 h) (chg_I (hrg_0 h) (chg_I (hrg_0 h) (chg_I (hrg_0 h) (chg_refl _ _))))) n3, fun rest => ?_⟩
      · have : xm_2 X p = xnote (up (up (xm_1 X p).1 3 0) 8 (xmin (X.1 8 + 1) 9999), X.2) 4 (hold32 (xm_n X p) 0 1023) := by unfold xm_2; rw [if_pos q]
        rw [this]
        exact n2
      · have em : (if X.1 8 + 1 ≤ 9999 then X.1 8 + 1 else 9999) = xmin (X.1 8 + 1) 9999 := rfl
        simp only [c_hold hd2, r_min hd1, s0, a2, a3, a8, ev, en, em, q, not_false_eq_true, n1, zz_ce, zz_ec, zz_cf, zz_fc, zz_ef, zz_fe, wI_at, wI_2, wJ_at, wJ_1, wJ_2, and_true, true_and, and_false, false_and, if_true, if_false, Nat.reduceEqDiff, Nat.reduceAdd, zero_ne_one_n, one_ne_zero_n, bd_100, k_0, k_1, k_1023, k_2, k_3, k_4, k_4294967232, k_4294967293, k_4294967295, k_64, k_99, k_9999, nz_1, nz_1023, nz_2, nz_3, nz_4, nz_64, nz_99, nz_9999, v_and, v_bin, v_call, v_cmp, v_cons, v_get, v_int, v_loc, v_mat, v_nil, v_tern, v_z, w_exp0, w_exp1, w_if, w_opf, w_put, w_retv, w_seq, w_set, w_skip, List.getElem?_cons_zero, List.getElem?_cons_succ, List.set_cons_zero, List.set_cons_succ, ee_cmp0, ee_cmp1, ee_cmp2, ee_cmp3, ee_cmp4, ee_cmp5, ee_cmpL0, ee_cmpL1, ee_cmpL2, ee_cmpL3, ee_cmpL4, ee_cmpL5, ee_tru_eb, decide_eq_true_eq, ib_i, ie_b, ie_f, ie_t, ib_l, fin_i, fin_l, fin_v, fin_z, fin_a, fin_n, ee_b_0, ee_fld0, ee_fld1, ee_fld2, ee_fld3, bi_0, bi_1, bi_2, bi_3, bi_4, bi_5, bi_6, bi_7, bi_8, bi_9, bi_10, bl_20, bl_21, bl_22, bl_23, bl_24, bl_25, bl_26, bl_48, bl_49, un_0, un_1, un_2, un_3, if_true, if_false, ite_true, ite_false, Bool.false_eq_true, Bool.not_eq_false, decide_not, Bool.not_not, reduceCtorEq, st_i, st_l, st_r, st_n, ee_noL, ee_noL.eq_1, List.length_cons, List.length_nil, Nat.reduceAdd, Nat.reduceLT, Nat.zero_add, and_true, true_and, and_self, fin_ite, pu_0, pu_1, pu_3, sto_0, el_0, Bool.not_eq_true, decide_eq_false_iff_not, Bool.decide_eq_true, Bool.decide_eq_false, decide_true, decide_false, Bool.not_true, Bool.not_false, Bool.and_self, Bool.and_true, Bool.and_false, Bool.true_and, Bool.false_and, Bool.or_true, Bool.or_false, Bool.true_or, Bool.false_or, if_true, if_false, Bool.false_eq_true]
  obtain ⟨w2, k1, k2, k3⟩ := key
  obtain ⟨w3, m1, m2, m3⟩ := c_move2 (P := P) hd1 hd2 hh k1 (xm_2_le hn p) p (xm_n X p)
  refine ⟨w3, ?_, m2, chg_trans k2 m3⟩
  rw [rn_100 s0]
  exact (k3 mv_rest).trans m1
end HM
