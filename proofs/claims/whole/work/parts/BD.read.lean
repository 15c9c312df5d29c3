/-! the class reads a text -/
section CRT
variable {P : Nat → Nat → List Value → ee_W → Option (List Value × ee_W)} {d : Nat} {w : ee_W} {f : Nat → Int32} {n c b law i l F : Nat} {T : TX}
theorem cbo_lt {K V : Nat → Nat} {N k : Nat} {z : TX × Nat} (hN : ∀ i, i ≤ N → (K i = 39 ↔ i = N)) (hi : i ≤ N) (h : cbo K V F T k i = .inl z) : i ≤ z.2 ∧ z.2 ≤ N := by
  have nx : ∀ i, i ≤ N → K i ≠ 39 → i + 1 ≤ N := fun i h1 h2 => by
    by_cases y : i = N
    · exact absurd ((hN i h1).2 y) h2
    · omega
  have nz : ∀ lo hi i, nmf K V lo hi i = 0 → K i = 38 := fun lo hi i q => by
    unfold nmf at q
    by_cases y : K i = 38
    · exact y
    · rw [if_neg y] at q; cases q
  unfold cbo at h
  by_cases k1 : k ≤ 1
  · rw [if_pos k1] at h
    cases hp : pp K V k F 0 0 i (.var 0) with
    | none => rw [hp] at h; cases h
    | some r =>
      rw [hp] at h
      cases r with
      | inr y => cases h
      | inl x =>
        cases h
        have := pp_ok hN F 0 0 i (.var 0) x.1 x.2 (by omega) hp (by omega) hi (fun q => by cases q)
        exact ⟨this.1, this.2.1⟩
  rw [if_neg k1] at h
  by_cases k2 : k = 2
  · rw [if_pos k2] at h
    by_cases q1 : nmf K V 0 7 i = 0
    · rw [if_pos q1] at h
      have i1 := nx i hi (by have := nz _ _ _ q1; omega)
      by_cases q2 : K (i + 1) = 8
      · rw [if_pos q2] at h
        have i2 := nx (i + 1) i1 (by omega)
        by_cases q3 : nmf K V 0 7 (i + 2) = 0
        · rw [if_pos q3] at h
          have i3 := nx (i + 2) i2 (by have := nz _ _ _ q3; omega)
          cases h
          exact ⟨by show i ≤ i + 3; omega, i3⟩
        · rw [if_neg q3] at h; cases h
      · rw [if_neg q2] at h; cases h
    · rw [if_neg q1] at h; cases h
  rw [if_neg k2] at h
  by_cases k6 : k = 6
  · rw [if_pos k6] at h
    cases h
    exact ⟨Nat.le_refl _, hi⟩
  rw [if_neg k6] at h
  by_cases q1 : nmf K V (lok k) (hik k) i = 0
  · rw [if_pos q1] at h
    have i1 := nx i hi (by have := nz _ _ _ q1; omega)
    cases h
    exact ⟨by show i ≤ i + 1; omega, i1⟩
  · rw [if_neg q1] at h; cases h
theorem cls_lt {K V : Nat → Nat} {N : Nat} {z : TX × Nat} (hN : ∀ i, i ≤ N → (K i = 39 ↔ i = N)) (hi : i ≤ N) (h : cls K V F T i = .inl z) : i < z.2 ∧ z.2 ≤ N := by
  have nx : ∀ i, i ≤ N → K i ≠ 39 → i + 1 ≤ N := fun i h1 h2 => by
    by_cases y : i = N
    · exact absurd ((hN i h1).2 y) h2
    · omega
  unfold cls at h
  by_cases c1 : 7 < K i
  · rw [if_pos c1] at h; cases h
  rw [if_neg c1] at h
  by_cases c2 : (K i = 0 ∧ T.2.1.isSome = true) ∨ (K i = 1 ∧ T.2.2.isSome = true)
  · rw [if_pos c2] at h; cases h
  rw [if_neg c2] at h
  by_cases c3 : 24 ≤ T.1.1
  · rw [if_pos c3] at h; cases h
  rw [if_neg c3] at h
  have i1 := nx i hi (by omega)
  cases hb : cbo K V F T (K i) (i + 1) with
  | inr y => rw [hb] at h; cases h
  | inl x =>
    rw [hb] at h
    have h : (if K x.2 = 37 then (.inl (x.1, x.2 + 1) : CR) else .inr (1, x.2)) = .inl z := h
    obtain ⟨a1, a2⟩ := cbo_lt hN i1 hb
    by_cases c4 : K x.2 = 37
    · rw [if_pos c4] at h
      cases h
      exact ⟨by show i < x.2 + 1; omega, nx _ a2 (by omega)⟩
    · rw [if_neg c4] at h; cases h
theorem TOK_E (h : TOK w n f c) : TKE f n c := ⟨h.1, fun i hi => ⟨fun q => by
  by_cases y : i = c
  · exact y
  · exact absurd q (h.2.2.2.1 i (by omega)), fun q => by rw [q]; exact h.2.2.2.2⟩⟩
theorem c_wob (hd : 5 ≤ d) (hP : PS w n f c b law i l) (hT : CTl w b l T) (hm : T.1.1 < 24) :
    ∃ w', ee_run ee_B P d 59 [.ref 225, .ref b] w = some ([.int (ee_b (islc (cbo (kkf f n) (vvf f n) F T 2 i)))], w') ∧ CRS w w' n f c b (cbo (kkf f n) (vvf f n) F T 2 i) := by
  obtain ⟨d, rfl⟩ : ∃ k, d = k + 1 := ⟨d - 1, by omega⟩
  have hd2 : 2 ≤ d := by omega
  have hd3 : 3 ≤ d := by omega
  have hb := hP.2.2.2.2.2.2
  have x0 := hb.2.2.1
  have e : cbo (kkf f n) (vvf f n) F T 2 i = (if nmf (kkf f n) (vvf f n) 0 7 i = 0 then (if kkf f n (i + 1) = 8 then (if nmf (kkf f n) (vvf f n) 0 7 (i + 2) = 0 then .inl (addc T 2 (Int32.ofNat (vvf f n i)) (Int32.ofNat (vvf f n (i + 2))), i + 3) else .inr (nmf (kkf f n) (vvf f n) 0 7 (i + 2), i + 2)) else .inr (1, i + 1)) else .inr (nmf (kkf f n) (vvf f n) 0 7 i, i)) := by
    unfold cbo
    rw [if_neg (by omega), if_pos rfl]
  rw [e]
  have rv := r_value (P := P) hd2 hP
  obtain ⟨g1, g2⟩ := r_num (P := P) hd3 hP (lo := 0) (hi := 7) (by omega) (by omega)
  rw [k_0, k_7] at g1 g2
  by_cases q1 : nmf (kkf f n) (vvf f n) 0 7 i = 0
  · obtain ⟨g1, k38⟩ := g1 q1
    rw [if_pos q1]
    have P1 := PS_at hP (show (tkn f n i).1 ≠ 39 by omega)
    have T1 := CTl_at hb hT (i + 1)
    have tk := r_take (P := P) hd3 P1 (k := 8) (by omega) (by omega)
    rw [k_8] at tk
    by_cases q2 : kkf f n (i + 1) = 8
    · rw [if_pos q2]
      rw [if_pos (show (tkn f n (i + 1)).1 = 8 from q2)] at tk
      have k8 : (tkn f n (i + 1)).1 = 8 := q2
      have P2 := PS_at P1 (show (tkn f n (i + 1)).1 ≠ 39 by omega)
      have T2 := CTl_at hb T1 (i + 1 + 1)
      have rv2 := r_value (P := P) hd2 P2
      obtain ⟨g3, g4⟩ := r_num (P := P) hd3 P2 (lo := 0) (hi := 7) (by omega) (by omega)
      rw [k_0, k_7] at g3 g4
      by_cases q3 : nmf (kkf f n) (vvf f n) 0 7 (i + 2) = 0
      · obtain ⟨g3, k38b⟩ := g3 q3
        rw [if_pos q3]
        have P3 := PS_at P2 (show (tkn f n (i + 1 + 1)).1 ≠ 39 by omega)
        have T3 := CTl_at hb T2 (i + 1 + 1 + 1)
        have ra := r_addc (P := P) hd2 hb T3.1.2.1 hm 2 (Int32.ofNat (tkn f n i).2.1) (Int32.ofNat (tkn f n (i + 1 + 1)).2.1)
        refine ⟨adc (atw (atw (atw w (i + 1)) (i + 1 + 1)) (i + 1 + 1 + 1)) b T.1.1 2 (Int32.ofNat (tkn f n i).2.1) (Int32.ofNat (tkn f n (i + 1 + 1)).2.1), ?_, chk_trans (atw_cl w b _) (chk_trans (atw_cl _ b _) (chk_trans (atw_cl _ b _) (adc_c _ b _ _ _ _))), law, l, PS_ad P3 _ _ _ _, CTl_ad T3 hm 2 _ _⟩
        show ee_run ee_B P (d + 1) 59 [.ref 225, .ref b] w = some ([.int 1], _)
        rw [rn_59 rd_225]
        simp only [rv, g1, tk, rv2, g3, ra, bd_59, k_0, k_1, k_2, k_7, k_8, nz_1, nz_2, nz_7, nz_8, v_call, v_cons, v_int, v_loc, v_nil, v_not, v_or, v_z, w_exp0, w_exp1, w_if, w_ret, w_seq, w_set, List.getElem?_cons_zero, List.getElem?_cons_succ, List.set_cons_zero, List.set_cons_succ, ee_cmp0, ee_cmp1, ee_cmp2, ee_cmp3, ee_cmp4, ee_cmp5, ee_cmpL0, ee_cmpL1, ee_cmpL2, ee_cmpL3, ee_cmpL4, ee_cmpL5, ee_tru_eb, decide_eq_true_eq, ib_i, ie_b, ie_f, ie_t, ib_l, fin_i, fin_l, fin_v, fin_z, fin_a, fin_n, ee_b_0, ee_fld0, ee_fld1, ee_fld2, ee_fld3, bi_0, bi_1, bi_2, bi_3, bi_4, bi_5, bi_6, bi_7, bi_8, bi_9, bi_10, bl_20, bl_21, bl_22, bl_23, bl_24, bl_25, bl_26, bl_48, bl_49, un_0, un_1, un_2, un_3, if_true, if_false, ite_true, ite_false, Bool.false_eq_true, Bool.not_eq_false, decide_not, Bool.not_not, reduceCtorEq, st_i, st_l, st_r, st_n, ee_noL, ee_noL.eq_1, List.length_cons, List.length_nil, Nat.reduceAdd, Nat.reduceLT, Nat.zero_add, and_true, true_and, and_self, fin_ite, pu_0, pu_1, pu_3, sto_0, el_0, Bool.not_eq_true, decide_eq_false_iff_not, Bool.decide_eq_true, Bool.decide_eq_false, decide_true, decide_false, Bool.not_true, Bool.not_false, Bool.and_self, Bool.and_true, Bool.and_false, Bool.true_and, Bool.false_and, Bool.or_true, Bool.or_false, Bool.true_or, Bool.false_or, if_true, if_false, Bool.false_eq_true]
        try rfl
      · have g4 := g4 q3
        rw [if_neg q3]
        refine ⟨_, ?_, CRS_go (chk_trans (atw_cl w b (i + 1)) (atw_cl _ b (i + 1 + 1))) (CRS_rf _ _)⟩
        show ee_run ee_B P (d + 1) 59 [.ref 225, .ref b] w = some ([.int 0], rfw (atw (atw w (i + 1)) (i + 1 + 1)) (nmf (kkf f n) (vvf f n) 0 7 (i + 2)) (tkn f n (i + 2)).2.2.1)
        rw [rn_59 rd_225]
        simp only [rv, g1, tk, rv2, g4, bd_59, k_0, k_1, k_2, k_7, k_8, nz_1, nz_2, nz_7, nz_8, v_call, v_cons, v_int, v_loc, v_nil, v_not, v_or, v_z, w_exp0, w_exp1, w_if, w_ret, w_seq, w_set, List.getElem?_cons_zero, List.getElem?_cons_succ, List.set_cons_zero, List.set_cons_succ, ee_cmp0, ee_cmp1, ee_cmp2, ee_cmp3, ee_cmp4, ee_cmp5, ee_cmpL0, ee_cmpL1, ee_cmpL2, ee_cmpL3, ee_cmpL4, ee_cmpL5, ee_tru_eb, decide_eq_true_eq, ib_i, ie_b, ie_f, ie_t, ib_l, fin_i, fin_l, fin_v, fin_z, fin_a, fin_n, ee_b_0, ee_fld0, ee_fld1, ee_fld2, ee_fld3, bi_0, bi_1, bi_2, bi_3, bi_4, bi_5, bi_6, bi_7, bi_8, bi_9, bi_10, bl_20, bl_21, bl_22, bl_23, bl_24, bl_25, bl_26, bl_48, bl_49, un_0, un_1, un_2, un_3, if_true, if_false, ite_true, ite_false, Bool.false_eq_true, Bool.not_eq_false, decide_not, Bool.not_not, reduceCtorEq, st_i, st_l, st_r, st_n, ee_noL, ee_noL.eq_1, List.length_cons, List.length_nil, Nat.reduceAdd, Nat.reduceLT, Nat.zero_add, and_true, true_and, and_self, fin_ite, pu_0, pu_1, pu_3, sto_0, el_0, Bool.not_eq_true, decide_eq_false_iff_not, Bool.decide_eq_true, Bool.decide_eq_false, decide_true, decide_false, Bool.not_true, Bool.not_false, Bool.and_self, Bool.and_true, Bool.and_false, Bool.true_and, Bool.false_and, Bool.or_true, Bool.or_false, Bool.true_or, Bool.false_or, if_true, if_false, Bool.false_eq_true]
        try rfl
    · rw [if_neg q2]
      rw [if_neg (show ¬ (tkn f n (i + 1)).1 = 8 from q2)] at tk
      refine ⟨_, ?_, CRS_go (atw_cl w b (i + 1)) (CRS_rf _ _)⟩
      show ee_run ee_B P (d + 1) 59 [.ref 225, .ref b] w = some ([.int 0], rfw (atw w (i + 1)) 1 (tkn f n (i + 1)).2.2.1)
      rw [rn_59 rd_225]
      simp only [rv, g1, tk, bd_59, k_0, k_1, k_2, k_7, k_8, nz_1, nz_2, nz_7, nz_8, v_call, v_cons, v_int, v_loc, v_nil, v_not, v_or, v_z, w_exp0, w_exp1, w_if, w_ret, w_seq, w_set, List.getElem?_cons_zero, List.getElem?_cons_succ, List.set_cons_zero, List.set_cons_succ, ee_cmp0, ee_cmp1, ee_cmp2, ee_cmp3, ee_cmp4, ee_cmp5, ee_cmpL0, ee_cmpL1, ee_cmpL2, ee_cmpL3, ee_cmpL4, ee_cmpL5, ee_tru_eb, decide_eq_true_eq, ib_i, ie_b, ie_f, ie_t, ib_l, fin_i, fin_l, fin_v, fin_z, fin_a, fin_n, ee_b_0, ee_fld0, ee_fld1, ee_fld2, ee_fld3, bi_0, bi_1, bi_2, bi_3, bi_4, bi_5, bi_6, bi_7, bi_8, bi_9, bi_10, bl_20, bl_21, bl_22, bl_23, bl_24, bl_25, bl_26, bl_48, bl_49, un_0, un_1, un_2, un_3, if_true, if_false, ite_true, ite_false, Bool.false_eq_true, Bool.not_eq_false, decide_not, Bool.not_not, reduceCtorEq, st_i, st_l, st_r, st_n, ee_noL, ee_noL.eq_1, List.length_cons, List.length_nil, Nat.reduceAdd, Nat.reduceLT, Nat.zero_add, and_true, true_and, and_self, fin_ite, pu_0, pu_1, pu_3, sto_0, el_0, Bool.not_eq_true, decide_eq_false_iff_not, Bool.decide_eq_true, Bool.decide_eq_false, decide_true, decide_false, Bool.not_true, Bool.not_false, Bool.and_self, Bool.and_true, Bool.and_false, Bool.true_and, Bool.false_and, Bool.or_true, Bool.or_false, Bool.true_or, Bool.false_or, if_true, if_false, Bool.false_eq_true]
      try rfl
  · have g2 := g2 q1
    rw [if_neg q1]
    refine ⟨_, ?_, CRS_rf _ _⟩
    show ee_run ee_B P (d + 1) 59 [.ref 225, .ref b] w = some ([.int 0], rfw w (nmf (kkf f n) (vvf f n) 0 7 i) (tkn f n i).2.2.1)
    rw [rn_59 rd_225]
    simp only [rv, g2, bd_59, k_0, k_1, k_2, k_7, k_8, nz_1, nz_2, nz_7, nz_8, v_call, v_cons, v_int, v_loc, v_nil, v_not, v_or, v_z, w_exp0, w_exp1, w_if, w_ret, w_seq, w_set, List.getElem?_cons_zero, List.getElem?_cons_succ, List.set_cons_zero, List.set_cons_succ, ee_cmp0, ee_cmp1, ee_cmp2, ee_cmp3, ee_cmp4, ee_cmp5, ee_cmpL0, ee_cmpL1, ee_cmpL2, ee_cmpL3, ee_cmpL4, ee_cmpL5, ee_tru_eb, decide_eq_true_eq, ib_i, ie_b, ie_f, ie_t, ib_l, fin_i, fin_l, fin_v, fin_z, fin_a, fin_n, ee_b_0, ee_fld0, ee_fld1, ee_fld2, ee_fld3, bi_0, bi_1, bi_2, bi_3, bi_4, bi_5, bi_6, bi_7, bi_8, bi_9, bi_10, bl_20, bl_21, bl_22, bl_23, bl_24, bl_25, bl_26, bl_48, bl_49, un_0, un_1, un_2, un_3, if_true, if_false, ite_true, ite_false, Bool.false_eq_true, Bool.not_eq_false, decide_not, Bool.not_not, reduceCtorEq, st_i, st_l, st_r, st_n, ee_noL, ee_noL.eq_1, List.length_cons, List.length_nil, Nat.reduceAdd, Nat.reduceLT, Nat.zero_add, and_true, true_and, and_self, fin_ite, pu_0, pu_1, pu_3, sto_0, el_0, Bool.not_eq_true, decide_eq_false_iff_not, Bool.decide_eq_true, Bool.decide_eq_false, decide_true, decide_false, Bool.not_true, Bool.not_false, Bool.and_self, Bool.and_true, Bool.and_false, Bool.true_and, Bool.false_and, Bool.or_true, Bool.or_false, Bool.true_or, Bool.false_or, if_true, if_false, Bool.false_eq_true]
    try rfl
theorem c_scr (hd : 6 ≤ d) (hP : PS w n f c b law i l) (hT : CTl w b l T) (hm : T.1.1 < 24) {k : Nat} (hk : 2 ≤ k ∧ k ≤ 7) :
    ∃ w', ee_run ee_B P d 58 [.ref 225, .int (Int32.ofNat k), .ref b] w = some ([.int (ee_b (islc (cbo (kkf f n) (vvf f n) F T k i)))], w') ∧ CRS w w' n f c b (cbo (kkf f n) (vvf f n) F T k i) := by
  obtain ⟨d, rfl⟩ : ∃ k, d = k + 1 := ⟨d - 1, by omega⟩
  have hd2 : 2 ≤ d := by omega
  have hd3 : 3 ≤ d := by omega
  have hb := hP.2.2.2.2.2.2
  have x0 := hb.2.2.1
  have rv := r_value (P := P) hd2 hP
  have : k = 2 ∨ k = 6 ∨ k = 3 ∨ k = 4 ∨ k = 5 ∨ k = 7 := by omega
  rcases this with rfl | rfl | rfl | rfl | rfl | rfl
  · obtain ⟨w', g1, g2⟩ := c_wob (P := P) (d := d) (F := F) (by omega) hP hT hm
    refine ⟨w', ?_, g2⟩
    rw [k_2, rn_58 rd_225]
    simp +decide only [memc, memn, g1, bd_58, k_0, k_1, k_40, k_60, k_63, k_7, nz_1, nz_40, nz_60, nz_63, nz_7, v_call, v_cons, v_int, v_loc, v_nil, v_not, v_z, w_case, w_dflt, w_exp0, w_exp1, w_if, w_ret, w_seq, w_set, w_switch, List.getElem?_cons_zero, List.getElem?_cons_succ, List.set_cons_zero, List.set_cons_succ, ee_cmp0, ee_cmp1, ee_cmp2, ee_cmp3, ee_cmp4, ee_cmp5, ee_cmpL0, ee_cmpL1, ee_cmpL2, ee_cmpL3, ee_cmpL4, ee_cmpL5, ee_tru_eb, decide_eq_true_eq, ib_i, ie_b, ie_f, ie_t, ib_l, fin_i, fin_l, fin_v, fin_z, fin_a, fin_n, ee_b_0, ee_fld0, ee_fld1, ee_fld2, ee_fld3, bi_0, bi_1, bi_2, bi_3, bi_4, bi_5, bi_6, bi_7, bi_8, bi_9, bi_10, bl_20, bl_21, bl_22, bl_23, bl_24, bl_25, bl_26, bl_48, bl_49, un_0, un_1, un_2, un_3, if_true, if_false, ite_true, ite_false, Bool.false_eq_true, Bool.not_eq_false, decide_not, Bool.not_not, reduceCtorEq, st_i, st_l, st_r, st_n, ee_noL, ee_noL.eq_1, List.length_cons, List.length_nil, Nat.reduceAdd, Nat.reduceLT, Nat.zero_add, and_true, true_and, and_self, fin_ite, pu_0, pu_1, pu_3, sto_0, el_0, Bool.not_eq_true, decide_eq_false_iff_not, Bool.decide_eq_true, Bool.decide_eq_false, decide_true, decide_false, Bool.not_true, Bool.not_false, Bool.and_self, Bool.and_true, Bool.and_false, Bool.true_and, Bool.false_and, Bool.or_true, Bool.or_false, Bool.true_or, Bool.false_or, if_true, if_false, Bool.false_eq_true]
    try rfl
  · have e : cbo (kkf f n) (vvf f n) F T 6 i = .inl (addc T 6 0 0, i) := by
      unfold cbo
      rw [if_neg (by omega), if_neg (by omega), if_pos rfl]
    rw [e]
    have ra := r_addc (P := P) hd2 hb hT.1.2.1 hm 6 0 0
    refine ⟨adc w b T.1.1 6 0 0, ?_, adc_c _ b _ _ _ _, law, l, PS_ad hP _ _ _ _, CTl_ad hT hm 6 _ _⟩
    show ee_run ee_B P (d + 1) 58 [.ref 225, .int (Int32.ofNat 6), .ref b] w = some ([.int 1], _)
    rw [k_6, rn_58 rd_225]
    simp +decide only [memc, memn, ra, bd_58, k_0, k_1, k_40, k_60, k_63, k_7, nz_1, nz_40, nz_60, nz_63, nz_7, v_call, v_cons, v_int, v_loc, v_nil, v_not, v_z, w_case, w_dflt, w_exp0, w_exp1, w_if, w_ret, w_seq, w_set, w_switch, List.getElem?_cons_zero, List.getElem?_cons_succ, List.set_cons_zero, List.set_cons_succ, ee_cmp0, ee_cmp1, ee_cmp2, ee_cmp3, ee_cmp4, ee_cmp5, ee_cmpL0, ee_cmpL1, ee_cmpL2, ee_cmpL3, ee_cmpL4, ee_cmpL5, ee_tru_eb, decide_eq_true_eq, ib_i, ie_b, ie_f, ie_t, ib_l, fin_i, fin_l, fin_v, fin_z, fin_a, fin_n, ee_b_0, ee_fld0, ee_fld1, ee_fld2, ee_fld3, bi_0, bi_1, bi_2, bi_3, bi_4, bi_5, bi_6, bi_7, bi_8, bi_9, bi_10, bl_20, bl_21, bl_22, bl_23, bl_24, bl_25, bl_26, bl_48, bl_49, un_0, un_1, un_2, un_3, if_true, if_false, ite_true, ite_false, Bool.false_eq_true, Bool.not_eq_false, decide_not, Bool.not_not, reduceCtorEq, st_i, st_l, st_r, st_n, ee_noL, ee_noL.eq_1, List.length_cons, List.length_nil, Nat.reduceAdd, Nat.reduceLT, Nat.zero_add, and_true, true_and, and_self, fin_ite, pu_0, pu_1, pu_3, sto_0, el_0, Bool.not_eq_true, decide_eq_false_iff_not, Bool.decide_eq_true, Bool.decide_eq_false, decide_true, decide_false, Bool.not_true, Bool.not_false, Bool.and_self, Bool.and_true, Bool.and_false, Bool.true_and, Bool.false_and, Bool.or_true, Bool.or_false, Bool.true_or, Bool.false_or, if_true, if_false, Bool.false_eq_true]
    try rfl
  · have e : cbo (kkf f n) (vvf f n) F T 3 i = (if nmf (kkf f n) (vvf f n) 0 7 i = 0 then .inl (addc T 3 (Int32.ofNat (vvf f n i)) 0, i + 1) else .inr (nmf (kkf f n) (vvf f n) 0 7 i, i)) := by
      unfold cbo
      rw [if_neg (by omega), if_neg (by omega), if_neg (by omega)]
      rfl
    rw [e]
    obtain ⟨g1, g2⟩ := r_num (P := P) hd3 hP (lo := 0) (hi := 7) (by omega) (by omega)
    rw [k_0, k_7] at g1 g2
    by_cases q1 : nmf (kkf f n) (vvf f n) 0 7 i = 0
    · obtain ⟨g1, k38⟩ := g1 q1
      rw [if_pos q1]
      have P1 := PS_at hP (show (tkn f n i).1 ≠ 39 by omega)
      have T1 := CTl_at hb hT (i + 1)
      have ra := r_addc (P := P) hd2 hb T1.1.2.1 hm 3 (Int32.ofNat (tkn f n i).2.1) 0
      refine ⟨adc (atw w (i + 1)) b T.1.1 3 (Int32.ofNat (tkn f n i).2.1) 0, ?_, chk_trans (atw_cl w b _) (adc_c _ b _ _ _ _), law, l, PS_ad P1 _ _ _ _, CTl_ad T1 hm 3 _ _⟩
      show ee_run ee_B P (d + 1) 58 [.ref 225, .int (Int32.ofNat 3), .ref b] w = some ([.int 1], _)
      rw [k_3, rn_58 rd_225]
      simp +decide only [memc, memn, rv, g1, ra, bd_58, k_0, k_1, k_40, k_60, k_63, k_7, nz_1, nz_40, nz_60, nz_63, nz_7, v_call, v_cons, v_int, v_loc, v_nil, v_not, v_z, w_case, w_dflt, w_exp0, w_exp1, w_if, w_ret, w_seq, w_set, w_switch, List.getElem?_cons_zero, List.getElem?_cons_succ, List.set_cons_zero, List.set_cons_succ, ee_cmp0, ee_cmp1, ee_cmp2, ee_cmp3, ee_cmp4, ee_cmp5, ee_cmpL0, ee_cmpL1, ee_cmpL2, ee_cmpL3, ee_cmpL4, ee_cmpL5, ee_tru_eb, decide_eq_true_eq, ib_i, ie_b, ie_f, ie_t, ib_l, fin_i, fin_l, fin_v, fin_z, fin_a, fin_n, ee_b_0, ee_fld0, ee_fld1, ee_fld2, ee_fld3, bi_0, bi_1, bi_2, bi_3, bi_4, bi_5, bi_6, bi_7, bi_8, bi_9, bi_10, bl_20, bl_21, bl_22, bl_23, bl_24, bl_25, bl_26, bl_48, bl_49, un_0, un_1, un_2, un_3, if_true, if_false, ite_true, ite_false, Bool.false_eq_true, Bool.not_eq_false, decide_not, Bool.not_not, reduceCtorEq, st_i, st_l, st_r, st_n, ee_noL, ee_noL.eq_1, List.length_cons, List.length_nil, Nat.reduceAdd, Nat.reduceLT, Nat.zero_add, and_true, true_and, and_self, fin_ite, pu_0, pu_1, pu_3, sto_0, el_0, Bool.not_eq_true, decide_eq_false_iff_not, Bool.decide_eq_true, Bool.decide_eq_false, decide_true, decide_false, Bool.not_true, Bool.not_false, Bool.and_self, Bool.and_true, Bool.and_false, Bool.true_and, Bool.false_and, Bool.or_true, Bool.or_false, Bool.true_or, Bool.false_or, if_true, if_false, Bool.false_eq_true]
      try rfl
    · have g2 := g2 q1
      rw [if_neg q1]
      refine ⟨_, ?_, CRS_rf _ _⟩
      show ee_run ee_B P (d + 1) 58 [.ref 225, .int (Int32.ofNat 3), .ref b] w = some ([.int 0], rfw w (nmf (kkf f n) (vvf f n) 0 7 i) (tkn f n i).2.2.1)
      rw [k_3, rn_58 rd_225]
      simp +decide only [memc, memn, rv, g2, bd_58, k_0, k_1, k_40, k_60, k_63, k_7, nz_1, nz_40, nz_60, nz_63, nz_7, v_call, v_cons, v_int, v_loc, v_nil, v_not, v_z, w_case, w_dflt, w_exp0, w_exp1, w_if, w_ret, w_seq, w_set, w_switch, List.getElem?_cons_zero, List.getElem?_cons_succ, List.set_cons_zero, List.set_cons_succ, ee_cmp0, ee_cmp1, ee_cmp2, ee_cmp3, ee_cmp4, ee_cmp5, ee_cmpL0, ee_cmpL1, ee_cmpL2, ee_cmpL3, ee_cmpL4, ee_cmpL5, ee_tru_eb, decide_eq_true_eq, ib_i, ie_b, ie_f, ie_t, ib_l, fin_i, fin_l, fin_v, fin_z, fin_a, fin_n, ee_b_0, ee_fld0, ee_fld1, ee_fld2, ee_fld3, bi_0, bi_1, bi_2, bi_3, bi_4, bi_5, bi_6, bi_7, bi_8, bi_9, bi_10, bl_20, bl_21, bl_22, bl_23, bl_24, bl_25, bl_26, bl_48, bl_49, un_0, un_1, un_2, un_3, if_true, if_false, ite_true, ite_false, Bool.false_eq_true, Bool.not_eq_false, decide_not, Bool.not_not, reduceCtorEq, st_i, st_l, st_r, st_n, ee_noL, ee_noL.eq_1, List.length_cons, List.length_nil, Nat.reduceAdd, Nat.reduceLT, Nat.zero_add, and_true, true_and, and_self, fin_ite, pu_0, pu_1, pu_3, sto_0, el_0, Bool.not_eq_true, decide_eq_false_iff_not, Bool.decide_eq_true, Bool.decide_eq_false, decide_true, decide_false, Bool.not_true, Bool.not_false, Bool.and_self, Bool.and_true, Bool.and_false, Bool.true_and, Bool.false_and, Bool.or_true, Bool.or_false, Bool.true_or, Bool.false_or, if_true, if_false, Bool.false_eq_true]
      try rfl
  · have e : cbo (kkf f n) (vvf f n) F T 4 i = (if nmf (kkf f n) (vvf f n) 0 63 i = 0 then .inl (addc T 4 (Int32.ofNat (vvf f n i)) 0, i + 1) else .inr (nmf (kkf f n) (vvf f n) 0 63 i, i)) := by
      unfold cbo
      rw [if_neg (by omega), if_neg (by omega), if_neg (by omega)]
      rfl
    rw [e]
    obtain ⟨g1, g2⟩ := r_num (P := P) hd3 hP (lo := 0) (hi := 63) (by omega) (by omega)
    rw [k_0, k_63] at g1 g2
    by_cases q1 : nmf (kkf f n) (vvf f n) 0 63 i = 0
    · obtain ⟨g1, k38⟩ := g1 q1
      rw [if_pos q1]
      have P1 := PS_at hP (show (tkn f n i).1 ≠ 39 by omega)
      have T1 := CTl_at hb hT (i + 1)
      have ra := r_addc (P := P) hd2 hb T1.1.2.1 hm 4 (Int32.ofNat (tkn f n i).2.1) 0
      refine ⟨adc (atw w (i + 1)) b T.1.1 4 (Int32.ofNat (tkn f n i).2.1) 0, ?_, chk_trans (atw_cl w b _) (adc_c _ b _ _ _ _), law, l, PS_ad P1 _ _ _ _, CTl_ad T1 hm 4 _ _⟩
      show ee_run ee_B P (d + 1) 58 [.ref 225, .int (Int32.ofNat 4), .ref b] w = some ([.int 1], _)
      rw [k_4, rn_58 rd_225]
      simp +decide only [memc, memn, rv, g1, ra, bd_58, k_0, k_1, k_40, k_60, k_63, k_7, nz_1, nz_40, nz_60, nz_63, nz_7, v_call, v_cons, v_int, v_loc, v_nil, v_not, v_z, w_case, w_dflt, w_exp0, w_exp1, w_if, w_ret, w_seq, w_set, w_switch, List.getElem?_cons_zero, List.getElem?_cons_succ, List.set_cons_zero, List.set_cons_succ, ee_cmp0, ee_cmp1, ee_cmp2, ee_cmp3, ee_cmp4, ee_cmp5, ee_cmpL0, ee_cmpL1, ee_cmpL2, ee_cmpL3, ee_cmpL4, ee_cmpL5, ee_tru_eb, decide_eq_true_eq, ib_i, ie_b, ie_f, ie_t, ib_l, fin_i, fin_l, fin_v, fin_z, fin_a, fin_n, ee_b_0, ee_fld0, ee_fld1, ee_fld2, ee_fld3, bi_0, bi_1, bi_2, bi_3, bi_4, bi_5, bi_6, bi_7, bi_8, bi_9, bi_10, bl_20, bl_21, bl_22, bl_23, bl_24, bl_25, bl_26, bl_48, bl_49, un_0, un_1, un_2, un_3, if_true, if_false, ite_true, ite_false, Bool.false_eq_true, Bool.not_eq_false, decide_not, Bool.not_not, reduceCtorEq, st_i, st_l, st_r, st_n, ee_noL, ee_noL.eq_1, List.length_cons, List.length_nil, Nat.reduceAdd, Nat.reduceLT, Nat.zero_add, and_true, true_and, and_self, fin_ite, pu_0, pu_1, pu_3, sto_0, el_0, Bool.not_eq_true, decide_eq_false_iff_not, Bool.decide_eq_true, Bool.decide_eq_false, decide_true, decide_false, Bool.not_true, Bool.not_false, Bool.and_self, Bool.and_true, Bool.and_false, Bool.true_and, Bool.false_and, Bool.or_true, Bool.or_false, Bool.true_or, Bool.false_or, if_true, if_false, Bool.false_eq_true]
      try rfl
    · have g2 := g2 q1
      rw [if_neg q1]
      refine ⟨_, ?_, CRS_rf _ _⟩
      show ee_run ee_B P (d + 1) 58 [.ref 225, .int (Int32.ofNat 4), .ref b] w = some ([.int 0], rfw w (nmf (kkf f n) (vvf f n) 0 63 i) (tkn f n i).2.2.1)
      rw [k_4, rn_58 rd_225]
      simp +decide only [memc, memn, rv, g2, bd_58, k_0, k_1, k_40, k_60, k_63, k_7, nz_1, nz_40, nz_60, nz_63, nz_7, v_call, v_cons, v_int, v_loc, v_nil, v_not, v_z, w_case, w_dflt, w_exp0, w_exp1, w_if, w_ret, w_seq, w_set, w_switch, List.getElem?_cons_zero, List.getElem?_cons_succ, List.set_cons_zero, List.set_cons_succ, ee_cmp0, ee_cmp1, ee_cmp2, ee_cmp3, ee_cmp4, ee_cmp5, ee_cmpL0, ee_cmpL1, ee_cmpL2, ee_cmpL3, ee_cmpL4, ee_cmpL5, ee_tru_eb, decide_eq_true_eq, ib_i, ie_b, ie_f, ie_t, ib_l, fin_i, fin_l, fin_v, fin_z, fin_a, fin_n, ee_b_0, ee_fld0, ee_fld1, ee_fld2, ee_fld3, bi_0, bi_1, bi_2, bi_3, bi_4, bi_5, bi_6, bi_7, bi_8, bi_9, bi_10, bl_20, bl_21, bl_22, bl_23, bl_24, bl_25, bl_26, bl_48, bl_49, un_0, un_1, un_2, un_3, if_true, if_false, ite_true, ite_false, Bool.false_eq_true, Bool.not_eq_false, decide_not, Bool.not_not, reduceCtorEq, st_i, st_l, st_r, st_n, ee_noL, ee_noL.eq_1, List.length_cons, List.length_nil, Nat.reduceAdd, Nat.reduceLT, Nat.zero_add, and_true, true_and, and_self, fin_ite, pu_0, pu_1, pu_3, sto_0, el_0, Bool.not_eq_true, decide_eq_false_iff_not, Bool.decide_eq_true, Bool.decide_eq_false, decide_true, decide_false, Bool.not_true, Bool.not_false, Bool.and_self, Bool.and_true, Bool.and_false, Bool.true_and, Bool.false_and, Bool.or_true, Bool.or_false, Bool.true_or, Bool.false_or, if_true, if_false, Bool.false_eq_true]
      try rfl
  · have e : cbo (kkf f n) (vvf f n) F T 5 i = (if nmf (kkf f n) (vvf f n) 1 40 i = 0 then .inl (addc T 5 (Int32.ofNat (vvf f n i)) 0, i + 1) else .inr (nmf (kkf f n) (vvf f n) 1 40 i, i)) := by
      unfold cbo
      rw [if_neg (by omega), if_neg (by omega), if_neg (by omega)]
      rfl
    rw [e]
    obtain ⟨g1, g2⟩ := r_num (P := P) hd3 hP (lo := 1) (hi := 40) (by omega) (by omega)
    rw [k_1, k_40] at g1 g2
    by_cases q1 : nmf (kkf f n) (vvf f n) 1 40 i = 0
    · obtain ⟨g1, k38⟩ := g1 q1
      rw [if_pos q1]
      have P1 := PS_at hP (show (tkn f n i).1 ≠ 39 by omega)
      have T1 := CTl_at hb hT (i + 1)
      have ra := r_addc (P := P) hd2 hb T1.1.2.1 hm 5 (Int32.ofNat (tkn f n i).2.1) 0
      refine ⟨adc (atw w (i + 1)) b T.1.1 5 (Int32.ofNat (tkn f n i).2.1) 0, ?_, chk_trans (atw_cl w b _) (adc_c _ b _ _ _ _), law, l, PS_ad P1 _ _ _ _, CTl_ad T1 hm 5 _ _⟩
      show ee_run ee_B P (d + 1) 58 [.ref 225, .int (Int32.ofNat 5), .ref b] w = some ([.int 1], _)
      rw [k_5, rn_58 rd_225]
      simp +decide only [memc, memn, rv, g1, ra, bd_58, k_0, k_1, k_40, k_60, k_63, k_7, nz_1, nz_40, nz_60, nz_63, nz_7, v_call, v_cons, v_int, v_loc, v_nil, v_not, v_z, w_case, w_dflt, w_exp0, w_exp1, w_if, w_ret, w_seq, w_set, w_switch, List.getElem?_cons_zero, List.getElem?_cons_succ, List.set_cons_zero, List.set_cons_succ, ee_cmp0, ee_cmp1, ee_cmp2, ee_cmp3, ee_cmp4, ee_cmp5, ee_cmpL0, ee_cmpL1, ee_cmpL2, ee_cmpL3, ee_cmpL4, ee_cmpL5, ee_tru_eb, decide_eq_true_eq, ib_i, ie_b, ie_f, ie_t, ib_l, fin_i, fin_l, fin_v, fin_z, fin_a, fin_n, ee_b_0, ee_fld0, ee_fld1, ee_fld2, ee_fld3, bi_0, bi_1, bi_2, bi_3, bi_4, bi_5, bi_6, bi_7, bi_8, bi_9, bi_10, bl_20, bl_21, bl_22, bl_23, bl_24, bl_25, bl_26, bl_48, bl_49, un_0, un_1, un_2, un_3, if_true, if_false, ite_true, ite_false, Bool.false_eq_true, Bool.not_eq_false, decide_not, Bool.not_not, reduceCtorEq, st_i, st_l, st_r, st_n, ee_noL, ee_noL.eq_1, List.length_cons, List.length_nil, Nat.reduceAdd, Nat.reduceLT, Nat.zero_add, and_true, true_and, and_self, fin_ite, pu_0, pu_1, pu_3, sto_0, el_0, Bool.not_eq_true, decide_eq_false_iff_not, Bool.decide_eq_true, Bool.decide_eq_false, decide_true, decide_false, Bool.not_true, Bool.not_false, Bool.and_self, Bool.and_true, Bool.and_false, Bool.true_and, Bool.false_and, Bool.or_true, Bool.or_false, Bool.true_or, Bool.false_or, if_true, if_false, Bool.false_eq_true]
      try rfl
    · have g2 := g2 q1
      rw [if_neg q1]
      refine ⟨_, ?_, CRS_rf _ _⟩
      show ee_run ee_B P (d + 1) 58 [.ref 225, .int (Int32.ofNat 5), .ref b] w = some ([.int 0], rfw w (nmf (kkf f n) (vvf f n) 1 40 i) (tkn f n i).2.2.1)
      rw [k_5, rn_58 rd_225]
      simp +decide only [memc, memn, rv, g2, bd_58, k_0, k_1, k_40, k_60, k_63, k_7, nz_1, nz_40, nz_60, nz_63, nz_7, v_call, v_cons, v_int, v_loc, v_nil, v_not, v_z, w_case, w_dflt, w_exp0, w_exp1, w_if, w_ret, w_seq, w_set, w_switch, List.getElem?_cons_zero, List.getElem?_cons_succ, List.set_cons_zero, List.set_cons_succ, ee_cmp0, ee_cmp1, ee_cmp2, ee_cmp3, ee_cmp4, ee_cmp5, ee_cmpL0, ee_cmpL1, ee_cmpL2, ee_cmpL3, ee_cmpL4, ee_cmpL5, ee_tru_eb, decide_eq_true_eq, ib_i, ie_b, ie_f, ie_t, ib_l, fin_i, fin_l, fin_v, fin_z, fin_a, fin_n, ee_b_0, ee_fld0, ee_fld1, ee_fld2, ee_fld3, bi_0, bi_1, bi_2, bi_3, bi_4, bi_5, bi_6, bi_7, bi_8, bi_9, bi_10, bl_20, bl_21, bl_22, bl_23, bl_24, bl_25, bl_26, bl_48, bl_49, un_0, un_1, un_2, un_3, if_true, if_false, ite_true, ite_false, Bool.false_eq_true, Bool.not_eq_false, decide_not, Bool.not_not, reduceCtorEq, st_i, st_l, st_r, st_n, ee_noL, ee_noL.eq_1, List.length_cons, List.length_nil, Nat.reduceAdd, Nat.reduceLT, Nat.zero_add, and_true, true_and, and_self, fin_ite, pu_0, pu_1, pu_3, sto_0, el_0, Bool.not_eq_true, decide_eq_false_iff_not, Bool.decide_eq_true, Bool.decide_eq_false, decide_true, decide_false, Bool.not_true, Bool.not_false, Bool.and_self, Bool.and_true, Bool.and_false, Bool.true_and, Bool.false_and, Bool.or_true, Bool.or_false, Bool.true_or, Bool.false_or, if_true, if_false, Bool.false_eq_true]
      try rfl
  · have e : cbo (kkf f n) (vvf f n) F T 7 i = (if nmf (kkf f n) (vvf f n) 1 60 i = 0 then .inl (addc T 7 (Int32.ofNat (vvf f n i)) 0, i + 1) else .inr (nmf (kkf f n) (vvf f n) 1 60 i, i)) := by
      unfold cbo
      rw [if_neg (by omega), if_neg (by omega), if_neg (by omega)]
      rfl
    rw [e]
    obtain ⟨g1, g2⟩ := r_num (P := P) hd3 hP (lo := 1) (hi := 60) (by omega) (by omega)
    rw [k_1, k_60] at g1 g2
    by_cases q1 : nmf (kkf f n) (vvf f n) 1 60 i = 0
    · obtain ⟨g1, k38⟩ := g1 q1
      rw [if_pos q1]
      have P1 := PS_at hP (show (tkn f n i).1 ≠ 39 by omega)
      have T1 := CTl_at hb hT (i + 1)
      have ra := r_addc (P := P) hd2 hb T1.1.2.1 hm 7 (Int32.ofNat (tkn f n i).2.1) 0
      refine ⟨adc (atw w (i + 1)) b T.1.1 7 (Int32.ofNat (tkn f n i).2.1) 0, ?_, chk_trans (atw_cl w b _) (adc_c _ b _ _ _ _), law, l, PS_ad P1 _ _ _ _, CTl_ad T1 hm 7 _ _⟩
      show ee_run ee_B P (d + 1) 58 [.ref 225, .int (Int32.ofNat 7), .ref b] w = some ([.int 1], _)
      rw [k_7, rn_58 rd_225]
      simp +decide only [memc, memn, rv, g1, ra, bd_58, k_0, k_1, k_40, k_60, k_63, k_7, nz_1, nz_40, nz_60, nz_63, nz_7, v_call, v_cons, v_int, v_loc, v_nil, v_not, v_z, w_case, w_dflt, w_exp0, w_exp1, w_if, w_ret, w_seq, w_set, w_switch, List.getElem?_cons_zero, List.getElem?_cons_succ, List.set_cons_zero, List.set_cons_succ, ee_cmp0, ee_cmp1, ee_cmp2, ee_cmp3, ee_cmp4, ee_cmp5, ee_cmpL0, ee_cmpL1, ee_cmpL2, ee_cmpL3, ee_cmpL4, ee_cmpL5, ee_tru_eb, decide_eq_true_eq, ib_i, ie_b, ie_f, ie_t, ib_l, fin_i, fin_l, fin_v, fin_z, fin_a, fin_n, ee_b_0, ee_fld0, ee_fld1, ee_fld2, ee_fld3, bi_0, bi_1, bi_2, bi_3, bi_4, bi_5, bi_6, bi_7, bi_8, bi_9, bi_10, bl_20, bl_21, bl_22, bl_23, bl_24, bl_25, bl_26, bl_48, bl_49, un_0, un_1, un_2, un_3, if_true, if_false, ite_true, ite_false, Bool.false_eq_true, Bool.not_eq_false, decide_not, Bool.not_not, reduceCtorEq, st_i, st_l, st_r, st_n, ee_noL, ee_noL.eq_1, List.length_cons, List.length_nil, Nat.reduceAdd, Nat.reduceLT, Nat.zero_add, and_true, true_and, and_self, fin_ite, pu_0, pu_1, pu_3, sto_0, el_0, Bool.not_eq_true, decide_eq_false_iff_not, Bool.decide_eq_true, Bool.decide_eq_false, decide_true, decide_false, Bool.not_true, Bool.not_false, Bool.and_self, Bool.and_true, Bool.and_false, Bool.true_and, Bool.false_and, Bool.or_true, Bool.or_false, Bool.true_or, Bool.false_or, if_true, if_false, Bool.false_eq_true]
      try rfl
    · have g2 := g2 q1
      rw [if_neg q1]
      refine ⟨_, ?_, CRS_rf _ _⟩
      show ee_run ee_B P (d + 1) 58 [.ref 225, .int (Int32.ofNat 7), .ref b] w = some ([.int 0], rfw w (nmf (kkf f n) (vvf f n) 1 60 i) (tkn f n i).2.2.1)
      rw [k_7, rn_58 rd_225]
      simp +decide only [memc, memn, rv, g2, bd_58, k_0, k_1, k_40, k_60, k_63, k_7, nz_1, nz_40, nz_60, nz_63, nz_7, v_call, v_cons, v_int, v_loc, v_nil, v_not, v_z, w_case, w_dflt, w_exp0, w_exp1, w_if, w_ret, w_seq, w_set, w_switch, List.getElem?_cons_zero, List.getElem?_cons_succ, List.set_cons_zero, List.set_cons_succ, ee_cmp0, ee_cmp1, ee_cmp2, ee_cmp3, ee_cmp4, ee_cmp5, ee_cmpL0, ee_cmpL1, ee_cmpL2, ee_cmpL3, ee_cmpL4, ee_cmpL5, ee_tru_eb, decide_eq_true_eq, ib_i, ie_b, ie_f, ie_t, ib_l, fin_i, fin_l, fin_v, fin_z, fin_a, fin_n, ee_b_0, ee_fld0, ee_fld1, ee_fld2, ee_fld3, bi_0, bi_1, bi_2, bi_3, bi_4, bi_5, bi_6, bi_7, bi_8, bi_9, bi_10, bl_20, bl_21, bl_22, bl_23, bl_24, bl_25, bl_26, bl_48, bl_49, un_0, un_1, un_2, un_3, if_true, if_false, ite_true, ite_false, Bool.false_eq_true, Bool.not_eq_false, decide_not, Bool.not_not, reduceCtorEq, st_i, st_l, st_r, st_n, ee_noL, ee_noL.eq_1, List.length_cons, List.length_nil, Nat.reduceAdd, Nat.reduceLT, Nat.zero_add, and_true, true_and, and_self, fin_ite, pu_0, pu_1, pu_3, sto_0, el_0, Bool.not_eq_true, decide_eq_false_iff_not, Bool.decide_eq_true, Bool.decide_eq_false, decide_true, decide_false, Bool.not_true, Bool.not_false, Bool.and_self, Bool.and_true, Bool.and_false, Bool.true_and, Bool.false_and, Bool.or_true, Bool.or_false, Bool.true_or, Bool.false_or, if_true, if_false, Bool.false_eq_true]
      try rfl
theorem CLl_i {p q : Nat} {o : Option ee_T} (h : CLl w b p q l o) (hl : l ≤ 300) : (w.1 b p = -1) = (o.isSome = false) := by
  cases o with
  | none => exact propext ⟨fun _ => rfl, fun _ => h⟩
  | some e =>
    obtain ⟨a1, a2, f, t, a3, a4, a5, a6, a7⟩ := h
    exact propext ⟨fun z => absurd z (by rw [a3]; exact ofN_ne (by omega)), fun z => by cases z⟩
theorem c_clause (hd : 77 ≤ d) (hF : 3700 ≤ F) (hP : PS w n f c b law i l) (hT : CTl w b l T) :
    ∃ w', ee_run ee_B P d 40 [.ref 225, .ref b] w = some ([.int (ee_b (islc (cls (kkf f n) (vvf f n) F T i)))], w') ∧ CRS w w' n f c b (cls (kkf f n) (vvf f n) F T i) := by
  obtain ⟨d, rfl⟩ : ∃ k, d = k + 1 := ⟨d - 1, by omega⟩
  have hd1 : 1 ≤ d := by omega
  have hd2 : 2 ≤ d := by omega
  have hd3 : 3 ≤ d := by omega
  have hb := hP.2.2.2.2.2.2
  have x0 := hb.2.2.1
  have hE := TOK_E hP.1
  have c300 := hE.1
  have ic := hP.2.2.2.2.1
  have li := hP.2.2.2.2.2.1
  have rk := r_kind (P := P) hd2 hP
  have kb := (tkn_b f n i).1
  have m24 := hT.1.1
  have e0 : (Int32.ofNat (tkn f n i).1 = 0) = ((tkn f n i).1 = 0) := kq (m := 0) (by omega) (by omega)
  have e1 : (Int32.ofNat (tkn f n i).1 = 1) = ((tkn f n i).1 = 1) := kq (m := 1) (by omega) (by omega)
  have le1 : Int32.ofNat (tkn f n i).1 ≤ 1 ↔ (tkn f n i).1 ≤ 1 := j_le (b := 1) (by omega) (by omega)
  have g6 := CLl_i hT.2.1 (by omega)
  have g8 := CLl_i hT.2.2 (by omega)
  have h3 := hT.1.2.1
  have h2 := hP.2.1
  have q24 : (24 : Int32) ≤ Int32.ofNat T.1.1 ↔ 24 ≤ T.1.1 := j_le (a := 24) (by omega) (by omega)
  have r1 := r_refuse (P := P) hd2 hP 1
  have r4 := r_refuse (P := P) hd2 hP 4
  have r6 := r_refuse (P := P) hd2 hP 6
  rw [k_1] at r1
  rw [k_4] at r4
  rw [k_6] at r6
  have qw : (decide ((0 : Int32) ≤ Int32.ofNat (tkn f n i).1) && decide (Int32.ofNat (tkn f n i).1 ≤ 7)) = decide ((tkn f n i).1 ≤ 7) := inb (b := 7) (by omega) (by omega)
  by_cases c1 : 7 < (tkn f n i).1
  · have e : cls (kkf f n) (vvf f n) F T i = .inr (1, i) := by
      unfold cls
      exact if_pos c1
    rw [e]
    rw [decide_eq_false (show ¬ (tkn f n i).1 ≤ 7 by omega)] at qw
    refine ⟨_, ?_, CRS_rf _ _⟩
    show ee_run ee_B P (d + 1) 40 [.ref 225, .ref b] w = some ([.int 0], rfw w 1 (tkn f n i).2.2.1)
    rw [rn_40 rd_225]
    simp only [rk, r_within hd1, qw, r1, bd_40, k_0, k_1, k_24, k_37, k_4, k_4294967295, k_6, k_7, nz_1, nz_24, nz_37, nz_4, nz_6, nz_7, v_and, v_call, v_cmp, v_cons, v_get, v_int, v_loc, v_mat, v_nil, v_not, v_or, v_tern, v_z, w_if, w_opf, w_ret, w_seq, w_set, List.getElem?_cons_zero, List.getElem?_cons_succ, List.set_cons_zero, List.set_cons_succ, ee_cmp0, ee_cmp1, ee_cmp2, ee_cmp3, ee_cmp4, ee_cmp5, ee_cmpL0, ee_cmpL1, ee_cmpL2, ee_cmpL3, ee_cmpL4, ee_cmpL5, ee_tru_eb, decide_eq_true_eq, ib_i, ie_b, ie_f, ie_t, ib_l, fin_i, fin_l, fin_v, fin_z, fin_a, fin_n, ee_b_0, ee_fld0, ee_fld1, ee_fld2, ee_fld3, bi_0, bi_1, bi_2, bi_3, bi_4, bi_5, bi_6, bi_7, bi_8, bi_9, bi_10, bl_20, bl_21, bl_22, bl_23, bl_24, bl_25, bl_26, bl_48, bl_49, un_0, un_1, un_2, un_3, if_true, if_false, ite_true, ite_false, Bool.false_eq_true, Bool.not_eq_false, decide_not, Bool.not_not, reduceCtorEq, st_i, st_l, st_r, st_n, ee_noL, ee_noL.eq_1, List.length_cons, List.length_nil, Nat.reduceAdd, Nat.reduceLT, Nat.zero_add, and_true, true_and, and_self, fin_ite, pu_0, pu_1, pu_3, sto_0, el_0, Bool.not_eq_true, decide_eq_false_iff_not, Bool.decide_eq_true, Bool.decide_eq_false, decide_true, decide_false, Bool.not_true, Bool.not_false, Bool.and_self, Bool.and_true, Bool.and_false, Bool.true_and, Bool.false_and, Bool.or_true, Bool.or_false, Bool.true_or, Bool.false_or, if_true, if_false, Bool.false_eq_true]
    try rfl
  have cc1 : cls (kkf f n) (vvf f n) F T i = if ((tkn f n i).1 = 0 ∧ T.2.1.isSome = true) ∨ ((tkn f n i).1 = 1 ∧ T.2.2.isSome = true) then .inr (4, i) else if 24 ≤ T.1.1 then .inr (6, i) else stp (kkf f n) (cbo (kkf f n) (vvf f n) F T (tkn f n i).1 (i + 1)) := by
    unfold cls
    exact if_neg c1
  rw [cc1]
  rw [decide_eq_true (show (tkn f n i).1 ≤ 7 by omega)] at qw
  by_cases c2 : ((tkn f n i).1 = 0 ∧ T.2.1.isSome = true) ∨ ((tkn f n i).1 = 1 ∧ T.2.2.isSome = true)
  · rw [if_pos c2]
    refine ⟨_, ?_, CRS_rf _ _⟩
    show ee_run ee_B P (d + 1) 40 [.ref 225, .ref b] w = some ([.int 0], rfw w 4 (tkn f n i).2.2.1)
    rw [rn_40 rd_225]
    rcases c2 with ⟨a1, a2⟩ | ⟨a1, a2⟩
    · have at1 : ((tkn f n i).1 = 0) = True := eq_true a1
      rw [a2] at g6
      have g6 : (w.1 b 6 = -1) = False := g6.trans (eq_false (by decide))
      simp only [rk, r_within hd1, qw, e0, at1, g6, r4, x0, bd_40, k_0, k_1, k_24, k_37, k_4, k_4294967295, k_6, k_7, nz_1, nz_24, nz_37, nz_4, nz_6, nz_7, v_and, v_call, v_cmp, v_cons, v_get, v_int, v_loc, v_mat, v_nil, v_not, v_or, v_tern, v_z, w_if, w_opf, w_ret, w_seq, w_set, List.getElem?_cons_zero, List.getElem?_cons_succ, List.set_cons_zero, List.set_cons_succ, ee_cmp0, ee_cmp1, ee_cmp2, ee_cmp3, ee_cmp4, ee_cmp5, ee_cmpL0, ee_cmpL1, ee_cmpL2, ee_cmpL3, ee_cmpL4, ee_cmpL5, ee_tru_eb, decide_eq_true_eq, ib_i, ie_b, ie_f, ie_t, ib_l, fin_i, fin_l, fin_v, fin_z, fin_a, fin_n, ee_b_0, ee_fld0, ee_fld1, ee_fld2, ee_fld3, bi_0, bi_1, bi_2, bi_3, bi_4, bi_5, bi_6, bi_7, bi_8, bi_9, bi_10, bl_20, bl_21, bl_22, bl_23, bl_24, bl_25, bl_26, bl_48, bl_49, un_0, un_1, un_2, un_3, if_true, if_false, ite_true, ite_false, Bool.false_eq_true, Bool.not_eq_false, decide_not, Bool.not_not, reduceCtorEq, st_i, st_l, st_r, st_n, ee_noL, ee_noL.eq_1, List.length_cons, List.length_nil, Nat.reduceAdd, Nat.reduceLT, Nat.zero_add, and_true, true_and, and_self, fin_ite, pu_0, pu_1, pu_3, sto_0, el_0, Bool.not_eq_true, decide_eq_false_iff_not, Bool.decide_eq_true, Bool.decide_eq_false, decide_true, decide_false, Bool.not_true, Bool.not_false, Bool.and_self, Bool.and_true, Bool.and_false, Bool.true_and, Bool.false_and, Bool.or_true, Bool.or_false, Bool.true_or, Bool.false_or, if_true, if_false, Bool.false_eq_true]
      try rfl
    · have an : ¬ (tkn f n i).1 = 0 := by omega
      have at1 : ((tkn f n i).1 = 1) = True := eq_true a1
      rw [a2] at g8
      have g8 : (w.1 b 8 = -1) = False := g8.trans (eq_false (by decide))
      simp only [rk, r_within hd1, qw, e0, an, e1, at1, g8, r4, x0, bd_40, k_0, k_1, k_24, k_37, k_4, k_4294967295, k_6, k_7, nz_1, nz_24, nz_37, nz_4, nz_6, nz_7, v_and, v_call, v_cmp, v_cons, v_get, v_int, v_loc, v_mat, v_nil, v_not, v_or, v_tern, v_z, w_if, w_opf, w_ret, w_seq, w_set, List.getElem?_cons_zero, List.getElem?_cons_succ, List.set_cons_zero, List.set_cons_succ, ee_cmp0, ee_cmp1, ee_cmp2, ee_cmp3, ee_cmp4, ee_cmp5, ee_cmpL0, ee_cmpL1, ee_cmpL2, ee_cmpL3, ee_cmpL4, ee_cmpL5, ee_tru_eb, decide_eq_true_eq, ib_i, ie_b, ie_f, ie_t, ib_l, fin_i, fin_l, fin_v, fin_z, fin_a, fin_n, ee_b_0, ee_fld0, ee_fld1, ee_fld2, ee_fld3, bi_0, bi_1, bi_2, bi_3, bi_4, bi_5, bi_6, bi_7, bi_8, bi_9, bi_10, bl_20, bl_21, bl_22, bl_23, bl_24, bl_25, bl_26, bl_48, bl_49, un_0, un_1, un_2, un_3, if_true, if_false, ite_true, ite_false, Bool.false_eq_true, Bool.not_eq_false, decide_not, Bool.not_not, reduceCtorEq, st_i, st_l, st_r, st_n, ee_noL, ee_noL.eq_1, List.length_cons, List.length_nil, Nat.reduceAdd, Nat.reduceLT, Nat.zero_add, and_true, true_and, and_self, fin_ite, pu_0, pu_1, pu_3, sto_0, el_0, Bool.not_eq_true, decide_eq_false_iff_not, Bool.decide_eq_true, Bool.decide_eq_false, decide_true, decide_false, Bool.not_true, Bool.not_false, Bool.and_self, Bool.and_true, Bool.and_false, Bool.true_and, Bool.false_and, Bool.or_true, Bool.or_false, Bool.true_or, Bool.false_or, if_true, if_false, Bool.false_eq_true]
      try rfl
  rw [if_neg c2]
  -- no law of that kind yet
  have pass : ∀ X : Option (List Value × ee_W), (¬ 24 ≤ T.1.1 → X = X) → True := fun _ _ => trivial
  have cD : ((tkn f n i).1 = 0 ∧ T.2.1.isSome = false) ∨ ((tkn f n i).1 = 1 ∧ T.2.2.isSome = false) ∨ (¬ (tkn f n i).1 = 0 ∧ ¬ (tkn f n i).1 = 1) := by
    by_cases a0 : (tkn f n i).1 = 0
    · left
      refine ⟨a0, ?_⟩
      cases g : T.2.1.isSome
      · rfl
      · exact absurd (Or.inl ⟨a0, g⟩) c2
    · right
      by_cases a1 : (tkn f n i).1 = 1
      · left
        refine ⟨a1, ?_⟩
        cases g : T.2.2.isSome
        · rfl
        · exact absurd (Or.inr ⟨a1, g⟩) c2
      · exact Or.inr ⟨a0, a1⟩
  by_cases c3 : 24 ≤ T.1.1
  · rw [if_pos c3]
    refine ⟨_, ?_, CRS_rf _ _⟩
    show ee_run ee_B P (d + 1) 40 [.ref 225, .ref b] w = some ([.int 0], rfw w 6 (tkn f n i).2.2.1)
    rw [rn_40 rd_225]
    rcases cD with ⟨a1, a2⟩ | ⟨a1, a2⟩ | ⟨a1, a2⟩
    · have at1 : ((tkn f n i).1 = 0) = True := eq_true a1
      have an : ¬ (tkn f n i).1 = 1 := by omega
      have g6 : (w.1 b 6 = -1) = True := g6.trans (eq_true a2)
      simp only [rk, r_within hd1, qw, e0, at1, e1, an, g6, h3, q24, c3, r6, x0, bd_40, k_0, k_1, k_24, k_37, k_4, k_4294967295, k_6, k_7, nz_1, nz_24, nz_37, nz_4, nz_6, nz_7, v_and, v_call, v_cmp, v_cons, v_get, v_int, v_loc, v_mat, v_nil, v_not, v_or, v_tern, v_z, w_if, w_opf, w_ret, w_seq, w_set, List.getElem?_cons_zero, List.getElem?_cons_succ, List.set_cons_zero, List.set_cons_succ, ee_cmp0, ee_cmp1, ee_cmp2, ee_cmp3, ee_cmp4, ee_cmp5, ee_cmpL0, ee_cmpL1, ee_cmpL2, ee_cmpL3, ee_cmpL4, ee_cmpL5, ee_tru_eb, decide_eq_true_eq, ib_i, ie_b, ie_f, ie_t, ib_l, fin_i, fin_l, fin_v, fin_z, fin_a, fin_n, ee_b_0, ee_fld0, ee_fld1, ee_fld2, ee_fld3, bi_0, bi_1, bi_2, bi_3, bi_4, bi_5, bi_6, bi_7, bi_8, bi_9, bi_10, bl_20, bl_21, bl_22, bl_23, bl_24, bl_25, bl_26, bl_48, bl_49, un_0, un_1, un_2, un_3, if_true, if_false, ite_true, ite_false, Bool.false_eq_true, Bool.not_eq_false, decide_not, Bool.not_not, reduceCtorEq, st_i, st_l, st_r, st_n, ee_noL, ee_noL.eq_1, List.length_cons, List.length_nil, Nat.reduceAdd, Nat.reduceLT, Nat.zero_add, and_true, true_and, and_self, fin_ite, pu_0, pu_1, pu_3, sto_0, el_0, Bool.not_eq_true, decide_eq_false_iff_not, Bool.decide_eq_true, Bool.decide_eq_false, decide_true, decide_false, Bool.not_true, Bool.not_false, Bool.and_self, Bool.and_true, Bool.and_false, Bool.true_and, Bool.false_and, Bool.or_true, Bool.or_false, Bool.true_or, Bool.false_or, if_true, if_false, Bool.false_eq_true]
      try rfl
    · have an : ¬ (tkn f n i).1 = 0 := by omega
      have at1 : ((tkn f n i).1 = 1) = True := eq_true a1
      have g8 : (w.1 b 8 = -1) = True := g8.trans (eq_true a2)
      simp only [rk, r_within hd1, qw, e0, an, e1, at1, g8, h3, q24, c3, r6, x0, bd_40, k_0, k_1, k_24, k_37, k_4, k_4294967295, k_6, k_7, nz_1, nz_24, nz_37, nz_4, nz_6, nz_7, v_and, v_call, v_cmp, v_cons, v_get, v_int, v_loc, v_mat, v_nil, v_not, v_or, v_tern, v_z, w_if, w_opf, w_ret, w_seq, w_set, List.getElem?_cons_zero, List.getElem?_cons_succ, List.set_cons_zero, List.set_cons_succ, ee_cmp0, ee_cmp1, ee_cmp2, ee_cmp3, ee_cmp4, ee_cmp5, ee_cmpL0, ee_cmpL1, ee_cmpL2, ee_cmpL3, ee_cmpL4, ee_cmpL5, ee_tru_eb, decide_eq_true_eq, ib_i, ie_b, ie_f, ie_t, ib_l, fin_i, fin_l, fin_v, fin_z, fin_a, fin_n, ee_b_0, ee_fld0, ee_fld1, ee_fld2, ee_fld3, bi_0, bi_1, bi_2, bi_3, bi_4, bi_5, bi_6, bi_7, bi_8, bi_9, bi_10, bl_20, bl_21, bl_22, bl_23, bl_24, bl_25, bl_26, bl_48, bl_49, un_0, un_1, un_2, un_3, if_true, if_false, ite_true, ite_false, Bool.false_eq_true, Bool.not_eq_false, decide_not, Bool.not_not, reduceCtorEq, st_i, st_l, st_r, st_n, ee_noL, ee_noL.eq_1, List.length_cons, List.length_nil, Nat.reduceAdd, Nat.reduceLT, Nat.zero_add, and_true, true_and, and_self, fin_ite, pu_0, pu_1, pu_3, sto_0, el_0, Bool.not_eq_true, decide_eq_false_iff_not, Bool.decide_eq_true, Bool.decide_eq_false, decide_true, decide_false, Bool.not_true, Bool.not_false, Bool.and_self, Bool.and_true, Bool.and_false, Bool.true_and, Bool.false_and, Bool.or_true, Bool.or_false, Bool.true_or, Bool.false_or, if_true, if_false, Bool.false_eq_true]
      try rfl
    · simp only [rk, r_within hd1, qw, e0, a1, e1, a2, h3, q24, c3, r6, x0, bd_40, k_0, k_1, k_24, k_37, k_4, k_4294967295, k_6, k_7, nz_1, nz_24, nz_37, nz_4, nz_6, nz_7, v_and, v_call, v_cmp, v_cons, v_get, v_int, v_loc, v_mat, v_nil, v_not, v_or, v_tern, v_z, w_if, w_opf, w_ret, w_seq, w_set, List.getElem?_cons_zero, List.getElem?_cons_succ, List.set_cons_zero, List.set_cons_succ, ee_cmp0, ee_cmp1, ee_cmp2, ee_cmp3, ee_cmp4, ee_cmp5, ee_cmpL0, ee_cmpL1, ee_cmpL2, ee_cmpL3, ee_cmpL4, ee_cmpL5, ee_tru_eb, decide_eq_true_eq, ib_i, ie_b, ie_f, ie_t, ib_l, fin_i, fin_l, fin_v, fin_z, fin_a, fin_n, ee_b_0, ee_fld0, ee_fld1, ee_fld2, ee_fld3, bi_0, bi_1, bi_2, bi_3, bi_4, bi_5, bi_6, bi_7, bi_8, bi_9, bi_10, bl_20, bl_21, bl_22, bl_23, bl_24, bl_25, bl_26, bl_48, bl_49, un_0, un_1, un_2, un_3, if_true, if_false, ite_true, ite_false, Bool.false_eq_true, Bool.not_eq_false, decide_not, Bool.not_not, reduceCtorEq, st_i, st_l, st_r, st_n, ee_noL, ee_noL.eq_1, List.length_cons, List.length_nil, Nat.reduceAdd, Nat.reduceLT, Nat.zero_add, and_true, true_and, and_self, fin_ite, pu_0, pu_1, pu_3, sto_0, el_0, Bool.not_eq_true, decide_eq_false_iff_not, Bool.decide_eq_true, Bool.decide_eq_false, decide_true, decide_false, Bool.not_true, Bool.not_false, Bool.and_self, Bool.and_true, Bool.and_false, Bool.true_and, Bool.false_and, Bool.or_true, Bool.or_false, Bool.true_or, Bool.false_or, if_true, if_false, Bool.false_eq_true]
      try rfl
  rw [if_neg c3]
  have P1 := PS_at hP (show (tkn f n i).1 ≠ 39 by omega)
  have T1 := CTl_at hb hT (i + 1)
  have i1 := P1.2.2.2.2.1
  have m24 : T.1.1 < 24 := by omega
  have fin : ∀ (r : CR) (w1 : ee_W), (∀ z, r = .inl z → z.2 ≤ c) → CRS (atw w (i + 1)) w1 n f c b r → ((tkn f n i).1 ≤ 1 → ee_run ee_B P d 42 [.ref 225, .int (Int32.ofNat (tkn f n i).1), .ref b] (atw w (i + 1)) = some ([.int (ee_b (islc r))], w1)) → (¬ (tkn f n i).1 ≤ 1 → ee_run ee_B P d 58 [.ref 225, .int (Int32.ofNat (tkn f n i).1), .ref b] (atw w (i + 1)) = some ([.int (ee_b (islc r))], w1)) →
      ∃ w', ee_run ee_B P (d + 1) 40 [.ref 225, .ref b] w = some ([.int (ee_b (islc (stp (kkf f n) r)))], w') ∧ CRS w w' n f c b (stp (kkf f n) r) := by
    intro r w1 hz hR h42 h58
    cases r with
    | inr y =>
      refine ⟨w1, ?_, CRS_go (atw_cl w b _) hR⟩
      show ee_run ee_B P (d + 1) 40 [.ref 225, .ref b] w = some ([.int 0], w1)
      rw [rn_40 rd_225]
      rcases cD with ⟨a1, a2⟩ | ⟨a1, a2⟩ | ⟨a1, a2⟩
      · have at1 : ((tkn f n i).1 = 0) = True := eq_true a1
        have an : ¬ (tkn f n i).1 = 1 := by omega
        have g6 : (w.1 b 6 = -1) = True := g6.trans (eq_true a2)
        have l1 : (tkn f n i).1 ≤ 1 := by omega
        have h42 : ee_run ee_B P d 42 [.ref 225, .int (Int32.ofNat (tkn f n i).1), .ref b] (atw w (i + 1)) = some ([.int 0], w1) := h42 l1
        simp only [rk, r_within hd1, qw, e0, at1, e1, an, g6, h3, q24, c3, h2, le1, l1, h42, rd_225, x0, w_opf, j_s, j_a, bd_40, k_0, k_1, k_24, k_37, k_4, k_4294967295, k_6, k_7, nz_1, nz_24, nz_37, nz_4, nz_6, nz_7, v_and, v_call, v_cmp, v_cons, v_get, v_int, v_loc, v_mat, v_nil, v_not, v_or, v_tern, v_z, w_if, w_opf, w_ret, w_seq, w_set, List.getElem?_cons_zero, List.getElem?_cons_succ, List.set_cons_zero, List.set_cons_succ, ee_cmp0, ee_cmp1, ee_cmp2, ee_cmp3, ee_cmp4, ee_cmp5, ee_cmpL0, ee_cmpL1, ee_cmpL2, ee_cmpL3, ee_cmpL4, ee_cmpL5, ee_tru_eb, decide_eq_true_eq, ib_i, ie_b, ie_f, ie_t, ib_l, fin_i, fin_l, fin_v, fin_z, fin_a, fin_n, ee_b_0, ee_fld0, ee_fld1, ee_fld2, ee_fld3, bi_0, bi_1, bi_2, bi_3, bi_4, bi_5, bi_6, bi_7, bi_8, bi_9, bi_10, bl_20, bl_21, bl_22, bl_23, bl_24, bl_25, bl_26, bl_48, bl_49, un_0, un_1, un_2, un_3, if_true, if_false, ite_true, ite_false, Bool.false_eq_true, Bool.not_eq_false, decide_not, Bool.not_not, reduceCtorEq, st_i, st_l, st_r, st_n, ee_noL, ee_noL.eq_1, List.length_cons, List.length_nil, Nat.reduceAdd, Nat.reduceLT, Nat.zero_add, and_true, true_and, and_self, fin_ite, pu_0, pu_1, pu_3, sto_0, el_0, Bool.not_eq_true, decide_eq_false_iff_not, Bool.decide_eq_true, Bool.decide_eq_false, decide_true, decide_false, Bool.not_true, Bool.not_false, Bool.and_self, Bool.and_true, Bool.and_false, Bool.true_and, Bool.false_and, Bool.or_true, Bool.or_false, Bool.true_or, Bool.false_or, if_true, if_false, Bool.false_eq_true]
        try rfl
      · have an : ¬ (tkn f n i).1 = 0 := by omega
        have at1 : ((tkn f n i).1 = 1) = True := eq_true a1
        have g8 : (w.1 b 8 = -1) = True := g8.trans (eq_true a2)
        have l1 : (tkn f n i).1 ≤ 1 := by omega
        have h42 : ee_run ee_B P d 42 [.ref 225, .int (Int32.ofNat (tkn f n i).1), .ref b] (atw w (i + 1)) = some ([.int 0], w1) := h42 l1
        simp only [rk, r_within hd1, qw, e0, an, e1, at1, g8, h3, q24, c3, h2, le1, l1, h42, rd_225, x0, w_opf, j_s, j_a, bd_40, k_0, k_1, k_24, k_37, k_4, k_4294967295, k_6, k_7, nz_1, nz_24, nz_37, nz_4, nz_6, nz_7, v_and, v_call, v_cmp, v_cons, v_get, v_int, v_loc, v_mat, v_nil, v_not, v_or, v_tern, v_z, w_if, w_opf, w_ret, w_seq, w_set, List.getElem?_cons_zero, List.getElem?_cons_succ, List.set_cons_zero, List.set_cons_succ, ee_cmp0, ee_cmp1, ee_cmp2, ee_cmp3, ee_cmp4, ee_cmp5, ee_cmpL0, ee_cmpL1, ee_cmpL2, ee_cmpL3, ee_cmpL4, ee_cmpL5, ee_tru_eb, decide_eq_true_eq, ib_i, ie_b, ie_f, ie_t, ib_l, fin_i, fin_l, fin_v, fin_z, fin_a, fin_n, ee_b_0, ee_fld0, ee_fld1, ee_fld2, ee_fld3, bi_0, bi_1, bi_2, bi_3, bi_4, bi_5, bi_6, bi_7, bi_8, bi_9, bi_10, bl_20, bl_21, bl_22, bl_23, bl_24, bl_25, bl_26, bl_48, bl_49, un_0, un_1, un_2, un_3, if_true, if_false, ite_true, ite_false, Bool.false_eq_true, Bool.not_eq_false, decide_not, Bool.not_not, reduceCtorEq, st_i, st_l, st_r, st_n, ee_noL, ee_noL.eq_1, List.length_cons, List.length_nil, Nat.reduceAdd, Nat.reduceLT, Nat.zero_add, and_true, true_and, and_self, fin_ite, pu_0, pu_1, pu_3, sto_0, el_0, Bool.not_eq_true, decide_eq_false_iff_not, Bool.decide_eq_true, Bool.decide_eq_false, decide_true, decide_false, Bool.not_true, Bool.not_false, Bool.and_self, Bool.and_true, Bool.and_false, Bool.true_and, Bool.false_and, Bool.or_true, Bool.or_false, Bool.true_or, Bool.false_or, if_true, if_false, Bool.false_eq_true]
        try rfl
      · have l1 : ¬ (tkn f n i).1 ≤ 1 := by omega
        have h58 : ee_run ee_B P d 58 [.ref 225, .int (Int32.ofNat (tkn f n i).1), .ref b] (atw w (i + 1)) = some ([.int 0], w1) := h58 l1
        simp only [rk, r_within hd1, qw, e0, a1, e1, a2, h3, q24, c3, h2, le1, l1, h58, rd_225, x0, w_opf, j_s, j_a, bd_40, k_0, k_1, k_24, k_37, k_4, k_4294967295, k_6, k_7, nz_1, nz_24, nz_37, nz_4, nz_6, nz_7, v_and, v_call, v_cmp, v_cons, v_get, v_int, v_loc, v_mat, v_nil, v_not, v_or, v_tern, v_z, w_if, w_opf, w_ret, w_seq, w_set, List.getElem?_cons_zero, List.getElem?_cons_succ, List.set_cons_zero, List.set_cons_succ, ee_cmp0, ee_cmp1, ee_cmp2, ee_cmp3, ee_cmp4, ee_cmp5, ee_cmpL0, ee_cmpL1, ee_cmpL2, ee_cmpL3, ee_cmpL4, ee_cmpL5, ee_tru_eb, decide_eq_true_eq, ib_i, ie_b, ie_f, ie_t, ib_l, fin_i, fin_l, fin_v, fin_z, fin_a, fin_n, ee_b_0, ee_fld0, ee_fld1, ee_fld2, ee_fld3, bi_0, bi_1, bi_2, bi_3, bi_4, bi_5, bi_6, bi_7, bi_8, bi_9, bi_10, bl_20, bl_21, bl_22, bl_23, bl_24, bl_25, bl_26, bl_48, bl_49, un_0, un_1, un_2, un_3, if_true, if_false, ite_true, ite_false, Bool.false_eq_true, Bool.not_eq_false, decide_not, Bool.not_not, reduceCtorEq, st_i, st_l, st_r, st_n, ee_noL, ee_noL.eq_1, List.length_cons, List.length_nil, Nat.reduceAdd, Nat.reduceLT, Nat.zero_add, and_true, true_and, and_self, fin_ite, pu_0, pu_1, pu_3, sto_0, el_0, Bool.not_eq_true, decide_eq_false_iff_not, Bool.decide_eq_true, Bool.decide_eq_false, decide_true, decide_false, Bool.not_true, Bool.not_false, Bool.and_self, Bool.and_true, Bool.and_false, Bool.true_and, Bool.false_and, Bool.or_true, Bool.or_false, Bool.true_or, Bool.false_or, if_true, if_false, Bool.false_eq_true]
        try rfl
    | inl z =>
      obtain ⟨hc, law', l', p1, p2⟩ := hR
      have tk := r_take (P := P) hd3 p1 (k := 37) (by omega) (by omega)
      rw [k_37] at tk
      have go : ∀ (v : Int32) (w2 : ee_W), ee_run ee_B P d 51 [.ref 225, .int 37] w1 = some ([.int v], w2) → (v = 0 ∨ v = 1) → ee_run ee_B P (d + 1) 40 [.ref 225, .ref b] w = some ([.int v], w2) := by
        intro v w2 tk hv
        rw [rn_40 rd_225]
        rcases cD with ⟨a1, a2⟩ | ⟨a1, a2⟩ | ⟨a1, a2⟩
        · have at1 : ((tkn f n i).1 = 0) = True := eq_true a1
          have an : ¬ (tkn f n i).1 = 1 := by omega
          have g6 : (w.1 b 6 = -1) = True := g6.trans (eq_true a2)
          have l1 : (tkn f n i).1 ≤ 1 := by omega
          have h42 : ee_run ee_B P d 42 [.ref 225, .int (Int32.ofNat (tkn f n i).1), .ref b] (atw w (i + 1)) = some ([.int 1], w1) := h42 l1
          rcases hv with rfl | rfl <;> (simp only [rk, r_within hd1, qw, e0, at1, e1, an, g6, h3, q24, c3, h2, le1, l1, h42, tk, rd_225, x0, w_opf, j_s, j_a, bd_40, k_0, k_1, k_24, k_37, k_4, k_4294967295, k_6, k_7, nz_1, nz_24, nz_37, nz_4, nz_6, nz_7, v_and, v_call, v_cmp, v_cons, v_get, v_int, v_loc, v_mat, v_nil, v_not, v_or, v_tern, v_z, w_if, w_opf, w_ret, w_seq, w_set, List.getElem?_cons_zero, List.getElem?_cons_succ, List.set_cons_zero, List.set_cons_succ, ee_cmp0, ee_cmp1, ee_cmp2, ee_cmp3, ee_cmp4, ee_cmp5, ee_cmpL0, ee_cmpL1, ee_cmpL2, ee_cmpL3, ee_cmpL4, ee_cmpL5, ee_tru_eb, decide_eq_true_eq, ib_i, ie_b, ie_f, ie_t, ib_l, fin_i, fin_l, fin_v, fin_z, fin_a, fin_n, ee_b_0, ee_fld0, ee_fld1, ee_fld2, ee_fld3, bi_0, bi_1, bi_2, bi_3, bi_4, bi_5, bi_6, bi_7, bi_8, bi_9, bi_10, bl_20, bl_21, bl_22, bl_23, bl_24, bl_25, bl_26, bl_48, bl_49, un_0, un_1, un_2, un_3, if_true, if_false, ite_true, ite_false, Bool.false_eq_true, Bool.not_eq_false, decide_not, Bool.not_not, reduceCtorEq, st_i, st_l, st_r, st_n, ee_noL, ee_noL.eq_1, List.length_cons, List.length_nil, Nat.reduceAdd, Nat.reduceLT, Nat.zero_add, and_true, true_and, and_self, fin_ite, pu_0, pu_1, pu_3, sto_0, el_0, Bool.not_eq_true, decide_eq_false_iff_not, Bool.decide_eq_true, Bool.decide_eq_false, decide_true, decide_false, Bool.not_true, Bool.not_false, Bool.and_self, Bool.and_true, Bool.and_false, Bool.true_and, Bool.false_and, Bool.or_true, Bool.or_false, Bool.true_or, Bool.false_or, if_true, if_false, Bool.false_eq_true]; try rfl)
        · have an : ¬ (tkn f n i).1 = 0 := by omega
          have at1 : ((tkn f n i).1 = 1) = True := eq_true a1
          have g8 : (w.1 b 8 = -1) = True := g8.trans (eq_true a2)
          have l1 : (tkn f n i).1 ≤ 1 := by omega
          have h42 : ee_run ee_B P d 42 [.ref 225, .int (Int32.ofNat (tkn f n i).1), .ref b] (atw w (i + 1)) = some ([.int 1], w1) := h42 l1
          rcases hv with rfl | rfl <;> (simp only [rk, r_within hd1, qw, e0, an, e1, at1, g8, h3, q24, c3, h2, le1, l1, h42, tk, rd_225, x0, w_opf, j_s, j_a, bd_40, k_0, k_1, k_24, k_37, k_4, k_4294967295, k_6, k_7, nz_1, nz_24, nz_37, nz_4, nz_6, nz_7, v_and, v_call, v_cmp, v_cons, v_get, v_int, v_loc, v_mat, v_nil, v_not, v_or, v_tern, v_z, w_if, w_opf, w_ret, w_seq, w_set, List.getElem?_cons_zero, List.getElem?_cons_succ, List.set_cons_zero, List.set_cons_succ, ee_cmp0, ee_cmp1, ee_cmp2, ee_cmp3, ee_cmp4, ee_cmp5, ee_cmpL0, ee_cmpL1, ee_cmpL2, ee_cmpL3, ee_cmpL4, ee_cmpL5, ee_tru_eb, decide_eq_true_eq, ib_i, ie_b, ie_f, ie_t, ib_l, fin_i, fin_l, fin_v, fin_z, fin_a, fin_n, ee_b_0, ee_fld0, ee_fld1, ee_fld2, ee_fld3, bi_0, bi_1, bi_2, bi_3, bi_4, bi_5, bi_6, bi_7, bi_8, bi_9, bi_10, bl_20, bl_21, bl_22, bl_23, bl_24, bl_25, bl_26, bl_48, bl_49, un_0, un_1, un_2, un_3, if_true, if_false, ite_true, ite_false, Bool.false_eq_true, Bool.not_eq_false, decide_not, Bool.not_not, reduceCtorEq, st_i, st_l, st_r, st_n, ee_noL, ee_noL.eq_1, List.length_cons, List.length_nil, Nat.reduceAdd, Nat.reduceLT, Nat.zero_add, and_true, true_and, and_self, fin_ite, pu_0, pu_1, pu_3, sto_0, el_0, Bool.not_eq_true, decide_eq_false_iff_not, Bool.decide_eq_true, Bool.decide_eq_false, decide_true, decide_false, Bool.not_true, Bool.not_false, Bool.and_self, Bool.and_true, Bool.and_false, Bool.true_and, Bool.false_and, Bool.or_true, Bool.or_false, Bool.true_or, Bool.false_or, if_true, if_false, Bool.false_eq_true]; try rfl)
        · have l1 : ¬ (tkn f n i).1 ≤ 1 := by omega
          have h58 : ee_run ee_B P d 58 [.ref 225, .int (Int32.ofNat (tkn f n i).1), .ref b] (atw w (i + 1)) = some ([.int 1], w1) := h58 l1
          rcases hv with rfl | rfl <;> (simp only [rk, r_within hd1, qw, e0, a1, e1, a2, h3, q24, c3, h2, le1, l1, h58, tk, rd_225, x0, w_opf, j_s, j_a, bd_40, k_0, k_1, k_24, k_37, k_4, k_4294967295, k_6, k_7, nz_1, nz_24, nz_37, nz_4, nz_6, nz_7, v_and, v_call, v_cmp, v_cons, v_get, v_int, v_loc, v_mat, v_nil, v_not, v_or, v_tern, v_z, w_if, w_opf, w_ret, w_seq, w_set, List.getElem?_cons_zero, List.getElem?_cons_succ, List.set_cons_zero, List.set_cons_succ, ee_cmp0, ee_cmp1, ee_cmp2, ee_cmp3, ee_cmp4, ee_cmp5, ee_cmpL0, ee_cmpL1, ee_cmpL2, ee_cmpL3, ee_cmpL4, ee_cmpL5, ee_tru_eb, decide_eq_true_eq, ib_i, ie_b, ie_f, ie_t, ib_l, fin_i, fin_l, fin_v, fin_z, fin_a, fin_n, ee_b_0, ee_fld0, ee_fld1, ee_fld2, ee_fld3, bi_0, bi_1, bi_2, bi_3, bi_4, bi_5, bi_6, bi_7, bi_8, bi_9, bi_10, bl_20, bl_21, bl_22, bl_23, bl_24, bl_25, bl_26, bl_48, bl_49, un_0, un_1, un_2, un_3, if_true, if_false, ite_true, ite_false, Bool.false_eq_true, Bool.not_eq_false, decide_not, Bool.not_not, reduceCtorEq, st_i, st_l, st_r, st_n, ee_noL, ee_noL.eq_1, List.length_cons, List.length_nil, Nat.reduceAdd, Nat.reduceLT, Nat.zero_add, and_true, true_and, and_self, fin_ite, pu_0, pu_1, pu_3, sto_0, el_0, Bool.not_eq_true, decide_eq_false_iff_not, Bool.decide_eq_true, Bool.decide_eq_false, decide_true, decide_false, Bool.not_true, Bool.not_false, Bool.and_self, Bool.and_true, Bool.and_false, Bool.true_and, Bool.false_and, Bool.or_true, Bool.or_false, Bool.true_or, Bool.false_or, if_true, if_false, Bool.false_eq_true]; try rfl)
      have es : stp (kkf f n) (.inl z) = if kkf f n z.2 = 37 then .inl (z.1, z.2 + 1) else .inr (1, z.2) := rfl
      rw [es]
      by_cases q : kkf f n z.2 = 37
      · have q' : (tkn f n z.2).1 = 37 := q
        rw [if_pos q]
        rw [if_pos q'] at tk
        exact ⟨_, go 1 _ tk (Or.inr rfl), chk_trans (atw_cl w b _) (chk_trans hc (atw_cl w1 b _)), law', l', PS_at p1 (by omega), CTl_at hb p2 _⟩
      · have q' : ¬ (tkn f n z.2).1 = 37 := q
        rw [if_neg q]
        rw [if_neg q'] at tk
        exact ⟨_, go 0 _ tk (Or.inl rfl), CRS_go (chk_trans (atw_cl w b _) hc) (CRS_rf _ _)⟩
  by_cases l1 : (tkn f n i).1 ≤ 1
  · obtain ⟨r, hr, -⟩ := pp_some (K := kkf f n) (V := vvf f n) (law := (tkn f n i).1) (N := c) (F := F) (i := i + 1) (D := 0) (x := .var 0) hE.2 hE.1 i1 hF
    obtain ⟨w1, g1, g3⟩ := c_law (P := P) (d := d) (by omega) P1 T1 m24 l1 hr
    have eb : cbo (kkf f n) (vvf f n) F T (tkn f n i).1 (i + 1) = lwc T (tkn f n i).1 (some r) := by
      unfold cbo
      rw [if_pos l1, hr]
    rw [eb]
    exact fin _ w1 (fun z hz => (cbo_lt hE.2 i1 (eb.trans hz)).2) g3 (fun _ => g1) (fun z => absurd l1 z)
  · obtain ⟨w1, g1, g3⟩ := c_scr (P := P) (d := d) (F := F) (by omega) P1 T1 m24 (k := (tkn f n i).1) (by omega)
    exact fin _ w1 (fun z hz => (cbo_lt hE.2 i1 hz).2) g3 (fun z => absurd z l1) (fun _ => g1)
theorem c_loop (hd : 78 ≤ d) (hF : 3700 ≤ F) : ∀ G T i w law l t, c - i < G → t ≤ i → PS w n f c b law i l → CTl w b l T → ∃ w' t', ee_wh (ee_turn (ee_ev es_sh es_rf (ee_run ee_B P d) lx_16_1) (ee_evS es_sh es_rf (ee_run ee_B P d) lb_16_1)) ([some (.ref 225), some (.ref 235), some (.int (Int32.ofNat n)), some (.ref b), some (.int (Int32.ofNat t))], w) = some (if islc (rdt (kkf f n) (vvf f n) F G T i) = true then .inl ([some (.ref 225), some (.ref 235), some (.int (Int32.ofNat n)), some (.ref b), some (.int (Int32.ofNat t'))], w') else .inr ([.int 0], w')) ∧ CRS w w' n f c b (rdt (kkf f n) (vvf f n) F G T i) := by
  intro G
  induction G with
  | zero => intro T i w law l t h; omega
  | succ G ih =>
    intro T i w law l t hG ht hP hT
    have hd2 : 2 ≤ d := by omega
    have hb := hP.2.2.2.2.2.2
    have hE := TOK_E hP.1
    have c300 := hE.1
    have ic := hP.2.2.2.2.1
    have rk := r_kind (P := P) hd2 hP
    have kb := (tkn_b f n i).1
    have e39 : (Int32.ofNat (tkn f n i).1 = 39) = ((tkn f n i).1 = 39) := kq (m := 39) (by omega) (by omega)
    have lt : Int32.ofNat t ≤ 300 := (j_le (b := 300) (by omega) (by omega)).2 (by omega)
    rw [rdt_s]
    by_cases q : kkf f n i = 39
    · have q' : (tkn f n i).1 = 39 := q
      have qt : ((tkn f n i).1 = 39) = True := eq_true q'
      rw [if_pos q]
      refine ⟨w, t, ?_, chk_refl _ _, law, l, hP, hT⟩
      rw [show islc (.inl (T, i) : CR) = true from rfl, if_pos rfl]
      have tt : ee_turn (ee_ev es_sh es_rf (ee_run ee_B P d) lx_16_1) (ee_evS es_sh es_rf (ee_run ee_B P d) lb_16_1) ([some (.ref 225), some (.ref 235), some (.int (Int32.ofNat n)), some (.ref b), some (.int (Int32.ofNat t))], w) = some (.inr (.inl ([some (.ref 225), some (.ref 235), some (.int (Int32.ofNat n)), some (.ref b), some (.int (Int32.ofNat t))], w))) := by
        simp only [lt, rk, e39, qt, lx_16_1, lb_16_1, ee_turn, k_0, k_1, k_300, k_39, k_4294967295, nz_1, nz_300, nz_39, v_and, v_call, v_cmp, v_cons, v_int, v_isnull, v_len, v_loc, v_nil, v_not, v_or, v_z, w_exp0, w_exp1, w_if, w_inc, w_put, w_ret, w_seq, w_set, w_skip, List.getElem?_cons_zero, List.getElem?_cons_succ, List.set_cons_zero, List.set_cons_succ, ee_cmp0, ee_cmp1, ee_cmp2, ee_cmp3, ee_cmp4, ee_cmp5, ee_cmpL0, ee_cmpL1, ee_cmpL2, ee_cmpL3, ee_cmpL4, ee_cmpL5, ee_tru_eb, decide_eq_true_eq, ib_i, ie_b, ie_f, ie_t, ib_l, fin_i, fin_l, fin_v, fin_z, fin_a, fin_n, ee_b_0, ee_fld0, ee_fld1, ee_fld2, ee_fld3, bi_0, bi_1, bi_2, bi_3, bi_4, bi_5, bi_6, bi_7, bi_8, bi_9, bi_10, bl_20, bl_21, bl_22, bl_23, bl_24, bl_25, bl_26, bl_48, bl_49, un_0, un_1, un_2, un_3, if_true, if_false, ite_true, ite_false, Bool.false_eq_true, Bool.not_eq_false, decide_not, Bool.not_not, reduceCtorEq, st_i, st_l, st_r, st_n, ee_noL, ee_noL.eq_1, List.length_cons, List.length_nil, Nat.reduceAdd, Nat.reduceLT, Nat.zero_add, and_true, true_and, and_self, fin_ite, pu_0, pu_1, pu_3, sto_0, el_0, Bool.not_eq_true, decide_eq_false_iff_not, Bool.decide_eq_true, Bool.decide_eq_false, decide_true, decide_false, Bool.not_true, Bool.not_false, Bool.and_self, Bool.and_true, Bool.and_false, Bool.true_and, Bool.false_and, Bool.or_true, Bool.or_false, Bool.true_or, Bool.false_or, if_true, if_false, Bool.false_eq_true]
      rw [ee_wh_eq, tt]
    · have q' : ¬ (tkn f n i).1 = 39 := q
      rw [if_neg q]
      obtain ⟨w1, g1, g3⟩ := c_clause (P := P) (d := d) (by omega) hF hP hT
      cases hr : cls (kkf f n) (vvf f n) F T i with
      | inr y =>
        rw [hr] at g1 g3
        have g1 : ee_run ee_B P d 40 [.ref 225, .ref b] w = some ([.int 0], w1) := g1
        refine ⟨w1, t, ?_, g3⟩
        rw [show islc (.inr y : CR) = false from rfl, if_neg (by decide)]
        have tt : ee_turn (ee_ev es_sh es_rf (ee_run ee_B P d) lx_16_1) (ee_evS es_sh es_rf (ee_run ee_B P d) lb_16_1) ([some (.ref 225), some (.ref 235), some (.int (Int32.ofNat n)), some (.ref b), some (.int (Int32.ofNat t))], w) = some (.inr (.inr ([.int 0], w1))) := by
          simp only [lt, rk, e39, q', g1, lx_16_1, lb_16_1, ee_turn, k_0, k_1, k_300, k_39, k_4294967295, nz_1, nz_300, nz_39, v_and, v_call, v_cmp, v_cons, v_int, v_isnull, v_len, v_loc, v_nil, v_not, v_or, v_z, w_exp0, w_exp1, w_if, w_inc, w_put, w_ret, w_seq, w_set, w_skip, List.getElem?_cons_zero, List.getElem?_cons_succ, List.set_cons_zero, List.set_cons_succ, ee_cmp0, ee_cmp1, ee_cmp2, ee_cmp3, ee_cmp4, ee_cmp5, ee_cmpL0, ee_cmpL1, ee_cmpL2, ee_cmpL3, ee_cmpL4, ee_cmpL5, ee_tru_eb, decide_eq_true_eq, ib_i, ie_b, ie_f, ie_t, ib_l, fin_i, fin_l, fin_v, fin_z, fin_a, fin_n, ee_b_0, ee_fld0, ee_fld1, ee_fld2, ee_fld3, bi_0, bi_1, bi_2, bi_3, bi_4, bi_5, bi_6, bi_7, bi_8, bi_9, bi_10, bl_20, bl_21, bl_22, bl_23, bl_24, bl_25, bl_26, bl_48, bl_49, un_0, un_1, un_2, un_3, if_true, if_false, ite_true, ite_false, Bool.false_eq_true, Bool.not_eq_false, decide_not, Bool.not_not, reduceCtorEq, st_i, st_l, st_r, st_n, ee_noL, ee_noL.eq_1, List.length_cons, List.length_nil, Nat.reduceAdd, Nat.reduceLT, Nat.zero_add, and_true, true_and, and_self, fin_ite, pu_0, pu_1, pu_3, sto_0, el_0, Bool.not_eq_true, decide_eq_false_iff_not, Bool.decide_eq_true, Bool.decide_eq_false, decide_true, decide_false, Bool.not_true, Bool.not_false, Bool.and_self, Bool.and_true, Bool.and_false, Bool.true_and, Bool.false_and, Bool.or_true, Bool.or_false, Bool.true_or, Bool.false_or, if_true, if_false, Bool.false_eq_true]
        rw [ee_wh_eq, tt]
      | inl z =>
        rw [hr] at g1 g3
        have g1 : ee_run ee_B P d 40 [.ref 225, .ref b] w = some ([.int 1], w1) := g1
        obtain ⟨g2, law', l', p1, p2⟩ := g3
        obtain ⟨z1, z2⟩ := cls_lt hE.2 ic hr
        obtain ⟨w2, t2, k1, k3⟩ := ih z.1 z.2 w1 law' l' (t + 1) (by omega) (by omega) p1 p2
        refine ⟨w2, t2, ?_, CRS_go g2 k3⟩
        have tt : ee_turn (ee_ev es_sh es_rf (ee_run ee_B P d) lx_16_1) (ee_evS es_sh es_rf (ee_run ee_B P d) lb_16_1) ([some (.ref 225), some (.ref 235), some (.int (Int32.ofNat n)), some (.ref b), some (.int (Int32.ofNat t))], w) = some (.inl ([some (.ref 225), some (.ref 235), some (.int (Int32.ofNat n)), some (.ref b), some (.int (Int32.ofNat (t + 1)))], w1)) := by
          simp only [lt, rk, e39, q', g1, j_s, j_a, lx_16_1, lb_16_1, ee_turn, k_0, k_1, k_300, k_39, k_4294967295, nz_1, nz_300, nz_39, v_and, v_call, v_cmp, v_cons, v_int, v_isnull, v_len, v_loc, v_nil, v_not, v_or, v_z, w_exp0, w_exp1, w_if, w_inc, w_put, w_ret, w_seq, w_set, w_skip, List.getElem?_cons_zero, List.getElem?_cons_succ, List.set_cons_zero, List.set_cons_succ, ee_cmp0, ee_cmp1, ee_cmp2, ee_cmp3, ee_cmp4, ee_cmp5, ee_cmpL0, ee_cmpL1, ee_cmpL2, ee_cmpL3, ee_cmpL4, ee_cmpL5, ee_tru_eb, decide_eq_true_eq, ib_i, ie_b, ie_f, ie_t, ib_l, fin_i, fin_l, fin_v, fin_z, fin_a, fin_n, ee_b_0, ee_fld0, ee_fld1, ee_fld2, ee_fld3, bi_0, bi_1, bi_2, bi_3, bi_4, bi_5, bi_6, bi_7, bi_8, bi_9, bi_10, bl_20, bl_21, bl_22, bl_23, bl_24, bl_25, bl_26, bl_48, bl_49, un_0, un_1, un_2, un_3, if_true, if_false, ite_true, ite_false, Bool.false_eq_true, Bool.not_eq_false, decide_not, Bool.not_not, reduceCtorEq, st_i, st_l, st_r, st_n, ee_noL, ee_noL.eq_1, List.length_cons, List.length_nil, Nat.reduceAdd, Nat.reduceLT, Nat.zero_add, and_true, true_and, and_self, fin_ite, pu_0, pu_1, pu_3, sto_0, el_0, Bool.not_eq_true, decide_eq_false_iff_not, Bool.decide_eq_true, Bool.decide_eq_false, decide_true, decide_false, Bool.not_true, Bool.not_false, Bool.and_self, Bool.and_true, Bool.and_false, Bool.true_and, Bool.false_and, Bool.or_true, Bool.or_false, Bool.true_or, Bool.false_or, if_true, if_false, Bool.false_eq_true]
        rw [ee_wh_eq, tt]
        exact k1
abbrev etw (w : ee_W) (b : Nat) : ee_W := ee_wI (ee_wI (ee_wI (ee_wI (ee_wI (ee_wI w b 3 0) b 5 0) b 6 (-1)) b 7 (-1)) b 8 (-1)) b 9 (-1)
theorem r_empty (hd : 1 ≤ d) (hb : bok b) : ee_run ee_B P d 17 [.ref b] w = some ([], etw w b) := by
  obtain ⟨d, rfl⟩ : ∃ k, d = k + 1 := ⟨d - 1, by omega⟩
  have x0 := hb.2.2.1
  unfold etw
  rw [rn_17 x0]
  simp only [x0, bd_17, k_0, k_4294967295, v_int, v_loc, w_put, w_retv, w_seq, List.getElem?_cons_zero, List.getElem?_cons_succ, List.set_cons_zero, List.set_cons_succ, ee_cmp0, ee_cmp1, ee_cmp2, ee_cmp3, ee_cmp4, ee_cmp5, ee_cmpL0, ee_cmpL1, ee_cmpL2, ee_cmpL3, ee_cmpL4, ee_cmpL5, ee_tru_eb, decide_eq_true_eq, ib_i, ie_b, ie_f, ie_t, ib_l, fin_i, fin_l, fin_v, fin_z, fin_a, fin_n, ee_b_0, ee_fld0, ee_fld1, ee_fld2, ee_fld3, bi_0, bi_1, bi_2, bi_3, bi_4, bi_5, bi_6, bi_7, bi_8, bi_9, bi_10, bl_20, bl_21, bl_22, bl_23, bl_24, bl_25, bl_26, bl_48, bl_49, un_0, un_1, un_2, un_3, if_true, if_false, ite_true, ite_false, Bool.false_eq_true, Bool.not_eq_false, decide_not, Bool.not_not, reduceCtorEq, st_i, st_l, st_r, st_n, ee_noL, ee_noL.eq_1, List.length_cons, List.length_nil, Nat.reduceAdd, Nat.reduceLT, Nat.zero_add, and_true, true_and, and_self, fin_ite, pu_0, pu_1, pu_3, sto_0, el_0, Bool.not_eq_true, decide_eq_false_iff_not, Bool.decide_eq_true, Bool.decide_eq_false, decide_true, decide_false, Bool.not_true, Bool.not_false, Bool.and_self, Bool.and_true, Bool.and_false, Bool.true_and, Bool.false_and, Bool.or_true, Bool.or_false, Bool.true_or, Bool.false_or, if_true, if_false, Bool.false_eq_true]
  try rfl
def TX0 : TX := ((0, fun _ => (0, 0, 0)), none, none)
/-- what reading a tape changes -/
def prd (b c k : Nat) : Prop := (225 ≤ c ∧ c ≤ 228 ∧ (c = 225 → k = 3 ∨ (4 ≤ k ∧ k ≤ 7))) ∨ (b ≤ c ∧ c ≤ b + 4)
theorem c_readTape (hS : SP P) (hd : 80 ≤ d) (hF : 3700 ≤ F) (hb : bok b) (hT : TAP w n f) : ∃ w' c, TKE f n c ∧ ee_run ee_B P d 16 [.ref 225, .ref 235, .int (Int32.ofNat n), .ref b] w = some ([.int (ee_b (islc (rdt (kkf f n) (vvf f n) F (c + 1) TX0 0)))], w') ∧ chk (prd b) w w' ∧ (match rdt (kkf f n) (vvf f n) F (c + 1) TX0 0 with
    | .inl z => w'.1 225 6 = 0 ∧ w'.1 225 7 = -1 ∧ CT w' b z.1
    | .inr y => w'.1 225 6 = Int32.ofNat y.1 ∧ w'.1 225 7 = Int32.ofNat (tkn f n y.2).2.2.1) := by
  obtain ⟨d, rfl⟩ : ∃ k, d = k + 1 := ⟨d - 1, by omega⟩
  have hd1 : 1 ≤ d := by omega
  have n300 := hT.1
  have b1 := hb.1
  have b2 := hb.2.1
  obtain ⟨w1, hw1⟩ : ∃ w1, w1 = ee_wI (ee_wI (ee_wI w 225 6 0) 225 7 (-1)) 225 4 0 := ⟨_, rfl⟩
  have em := r_empty (P := P) (w := w1) hd1 hb
  obtain ⟨w2, hw2⟩ : ∃ w2, w2 = etw w1 b := ⟨_, rfl⟩
  rw [← hw2] at em
  have o2 : ∀ c k, (c ≠ 225 ∨ (k ≠ 4 ∧ k ≠ 6 ∧ k ≠ 7)) → c ≠ b → w2.1 c k = w.1 c k := fun c k h h2 => by
    rw [hw2]
    unfold etw
    rw [wI_at, if_neg (by omega), wI_at, if_neg (by omega), wI_at, if_neg (by omega), wI_at, if_neg (by omega), wI_at, if_neg (by omega), wI_at, if_neg (by omega), hw1, wI_at, if_neg (by omega), wI_at, if_neg (by omega), wI_at, if_neg (by omega)]
  have u2 : w2.2.2 = w.2.2 := by rw [hw2, hw1]; rfl
  have c2 : chk (prd b) w w2 := ⟨fun c k h => by
    unfold prd at h
    by_cases y : c = b
    · omega
    · exact o2 c k (by omega) y, u2⟩
  have hT2 : TAP w2 n f := ⟨hT.1, fun i hi => (o2 _ _ (by omega) (by omega)).trans (hT.2 i hi)⟩
  obtain ⟨w3, c, r3, t3, ⟨k1, k2⟩⟩ := c_cutk (P := P) (d := d) hS (by omega) hT2
  have o3 : ∀ x k, (x < 225 ∨ 229 ≤ x) → w3.1 x k = w2.1 x k := fun x k h => k1.1 x k (by unfold rgr; rw [rg_f]; exact h)
  have cb : ∀ k, w3.1 b k = w2.1 b k := fun k => o3 _ _ (by omega)
  have e6 : w2.1 225 6 = 0 ∧ w2.1 225 7 = -1 ∧ w2.1 225 4 = 0 := by
    rw [hw2]
    unfold etw
    refine ⟨?_, ?_, ?_⟩
    · rw [wI_at, if_neg (by omega), wI_at, if_neg (by omega), wI_at, if_neg (by omega), wI_at, if_neg (by omega), wI_at, if_neg (by omega), wI_at, if_neg (by omega), hw1, wI_at, if_neg (by omega), wI_at, if_neg (by omega), wI_at, if_pos ⟨rfl, rfl⟩]
    · rw [wI_at, if_neg (by omega), wI_at, if_neg (by omega), wI_at, if_neg (by omega), wI_at, if_neg (by omega), wI_at, if_neg (by omega), wI_at, if_neg (by omega), hw1, wI_at, if_neg (by omega), wI_at, if_pos ⟨rfl, rfl⟩]
    · rw [wI_at, if_neg (by omega), wI_at, if_neg (by omega), wI_at, if_neg (by omega), wI_at, if_neg (by omega), wI_at, if_neg (by omega), wI_at, if_neg (by omega), hw1, wI_at, if_pos ⟨rfl, rfl⟩]
  have v2 : w2.1 b 3 = 0 ∧ w2.1 b 5 = 0 ∧ w2.1 b 6 = -1 ∧ w2.1 b 8 = -1 := by
    rw [hw2]
    unfold etw
    refine ⟨?_, ?_, ?_, ?_⟩
    · rw [wI_at, if_neg (by omega), wI_at, if_neg (by omega), wI_at, if_neg (by omega), wI_at, if_neg (by omega), wI_at, if_neg (by omega), wI_at, if_pos ⟨rfl, rfl⟩]
    · rw [wI_at, if_neg (by omega), wI_at, if_neg (by omega), wI_at, if_neg (by omega), wI_at, if_neg (by omega), wI_at, if_pos ⟨rfl, rfl⟩]
    · rw [wI_at, if_neg (by omega), wI_at, if_neg (by omega), wI_at, if_neg (by omega), wI_at, if_pos ⟨rfl, rfl⟩]
    · rw [wI_at, if_neg (by omega), wI_at, if_pos ⟨rfl, rfl⟩]
  obtain ⟨law, hlaw⟩ : ∃ law : Nat, w3.1 225 5 = Int32.ofNat law := ⟨(w3.1 225 5).toBitVec.toNat, (Int32.toBitVec_inj.1 (by simp)).symm⟩
  have P3 : PS w3 n f c b law 0 0 := ⟨t3, (k2 4 (by omega)).trans e6.2.2, hlaw, (cb 5).trans v2.2.1, Nat.zero_le _, Nat.le_refl _, hb⟩
  have T3 : CTl w3 b 0 TX0 := ⟨⟨by show 0 ≤ 24; omega, (cb 3).trans v2.1, fun i hi => by have hi : i < 0 := hi; omega⟩, (cb 6).trans v2.2.2.1, (cb 8).trans v2.2.2.2⟩
  obtain ⟨w4, t4, g1, g2⟩ := c_loop (P := P) (d := d) (by omega) hF (c + 1) TX0 0 w3 law 0 0 (by omega) (Nat.le_refl _) P3 T3
  rw [k_0] at g1
  have mn : (if Int32.ofNat n ≤ 300 then Int32.ofNat n else 300) = Int32.ofNat n := if_pos ((j_le (b := 300) (by omega) (by omega)).2 (by omega))
  have c3 : chk (prd b) w2 w3 := ⟨fun x k h => by
    unfold prd at h
    by_cases y : x < 225 ∨ 229 ≤ x
    · exact o3 x k y
    · have x5 : x = 225 := by omega
      subst x5
      exact k2 k (by omega), k1.2⟩
  refine ⟨w4, c, TOK_E t3, ?_, ?_, ?_⟩
  · rw [rn_16 rd_225]
    cases hr : rdt (kkf f n) (vvf f n) F (c + 1) TX0 0 with
    | inl z =>
      rw [hr, show islc (.inl z : CR) = true from rfl, if_pos rfl] at g1
      show _ = some ([Value.int 1], w4)
      simp only [← hw1, em, r_min hd1, mn, k_300, r3, w_while, g1, rd_225, rd_235, be_16, k_0, k_1, k_300, k_39, k_4294967295, nz_1, nz_300, nz_39, v_and, v_call, v_cmp, v_cons, v_int, v_isnull, v_len, v_loc, v_nil, v_not, v_or, v_z, w_exp0, w_exp1, w_if, w_inc, w_put, w_ret, w_seq, w_set, w_skip, List.getElem?_cons_zero, List.getElem?_cons_succ, List.set_cons_zero, List.set_cons_succ, ee_cmp0, ee_cmp1, ee_cmp2, ee_cmp3, ee_cmp4, ee_cmp5, ee_cmpL0, ee_cmpL1, ee_cmpL2, ee_cmpL3, ee_cmpL4, ee_cmpL5, ee_tru_eb, decide_eq_true_eq, ib_i, ie_b, ie_f, ie_t, ib_l, fin_i, fin_l, fin_v, fin_z, fin_a, fin_n, ee_b_0, ee_fld0, ee_fld1, ee_fld2, ee_fld3, bi_0, bi_1, bi_2, bi_3, bi_4, bi_5, bi_6, bi_7, bi_8, bi_9, bi_10, bl_20, bl_21, bl_22, bl_23, bl_24, bl_25, bl_26, bl_48, bl_49, un_0, un_1, un_2, un_3, if_true, if_false, ite_true, ite_false, Bool.false_eq_true, Bool.not_eq_false, decide_not, Bool.not_not, reduceCtorEq, st_i, st_l, st_r, st_n, ee_noL, ee_noL.eq_1, List.length_cons, List.length_nil, Nat.reduceAdd, Nat.reduceLT, Nat.zero_add, and_true, true_and, and_self, fin_ite, pu_0, pu_1, pu_3, sto_0, el_0, Bool.not_eq_true, decide_eq_false_iff_not, Bool.decide_eq_true, Bool.decide_eq_false, decide_true, decide_false, Bool.not_true, Bool.not_false, Bool.and_self, Bool.and_true, Bool.and_false, Bool.true_and, Bool.false_and, Bool.or_true, Bool.or_false, Bool.true_or, Bool.false_or, if_true, if_false, Bool.false_eq_true]
      try rfl
    | inr y =>
      rw [hr, show islc (.inr y : CR) = false from rfl, if_neg (by decide)] at g1
      show _ = some ([Value.int 0], w4)
      simp only [← hw1, em, r_min hd1, mn, k_300, r3, w_while, g1, rd_225, rd_235, be_16, k_0, k_1, k_300, k_39, k_4294967295, nz_1, nz_300, nz_39, v_and, v_call, v_cmp, v_cons, v_int, v_isnull, v_len, v_loc, v_nil, v_not, v_or, v_z, w_exp0, w_exp1, w_if, w_inc, w_put, w_ret, w_seq, w_set, w_skip, List.getElem?_cons_zero, List.getElem?_cons_succ, List.set_cons_zero, List.set_cons_succ, ee_cmp0, ee_cmp1, ee_cmp2, ee_cmp3, ee_cmp4, ee_cmp5, ee_cmpL0, ee_cmpL1, ee_cmpL2, ee_cmpL3, ee_cmpL4, ee_cmpL5, ee_tru_eb, decide_eq_true_eq, ib_i, ie_b, ie_f, ie_t, ib_l, fin_i, fin_l, fin_v, fin_z, fin_a, fin_n, ee_b_0, ee_fld0, ee_fld1, ee_fld2, ee_fld3, bi_0, bi_1, bi_2, bi_3, bi_4, bi_5, bi_6, bi_7, bi_8, bi_9, bi_10, bl_20, bl_21, bl_22, bl_23, bl_24, bl_25, bl_26, bl_48, bl_49, un_0, un_1, un_2, un_3, if_true, if_false, ite_true, ite_false, Bool.false_eq_true, Bool.not_eq_false, decide_not, Bool.not_not, reduceCtorEq, st_i, st_l, st_r, st_n, ee_noL, ee_noL.eq_1, List.length_cons, List.length_nil, Nat.reduceAdd, Nat.reduceLT, Nat.zero_add, and_true, true_and, and_self, fin_ite, pu_0, pu_1, pu_3, sto_0, el_0, Bool.not_eq_true, decide_eq_false_iff_not, Bool.decide_eq_true, Bool.decide_eq_false, decide_true, decide_false, Bool.not_true, Bool.not_false, Bool.and_self, Bool.and_true, Bool.and_false, Bool.true_and, Bool.false_and, Bool.or_true, Bool.or_false, Bool.true_or, Bool.false_or, if_true, if_false, Bool.false_eq_true]
      try rfl
  · refine chk_trans c2 (chk_trans c3 ?_)
    cases hr : rdt (kkf f n) (vvf f n) F (c + 1) TX0 0 with
    | inl z => rw [hr] at g2; exact chk_mono g2.1 (fun c k h => by unfold pcl at h; unfold prd; omega)
    | inr y => rw [hr] at g2; exact chk_mono g2.1 (fun c k h => by unfold pcf at h; unfold prd; omega)
  · cases hr : rdt (kkf f n) (vvf f n) F (c + 1) TX0 0 with
    | inl z =>
      rw [hr] at g2
      obtain ⟨a1, law', l', a2, a3⟩ := g2
      refine ⟨(a1.1 _ _ (by unfold pcl; omega)).trans ((k2 6 (by omega)).trans e6.1), (a1.1 _ _ (by unfold pcl; omega)).trans ((k2 7 (by omega)).trans e6.2.1), CTl_CT a3 (by have := a2.2.2.2.2.1; have := a2.2.2.2.2.2.1; have := t3.1; omega)⟩
    | inr y =>
      rw [hr] at g2
      exact g2.2
end CRT
