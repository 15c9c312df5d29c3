/-! the reference begins one -/
section BGN
variable {P : Nat → Nat → List Value → ee_W → Option (List Value × ee_W)} {d : Nat} {w : ee_W} {f : Nat → Int32} {n s t i W O law : Nat} {ks us : List Nat} {wh : Bool}
theorem m_isOf (hd : 1 ≤ d) {m : Nat} (hm : m ≤ 6) (hlaw : law ≤ 1) (h14 : w.1 236 14 = Int32.ofNat law) : ee_run ee_B P d 227 [.ref 236, .int (Int32.ofNat m)] w = some ([.int (ee_b (decide (m + 18 ≠ pkk law)))], w) := by
  obtain ⟨d, rfl⟩ : ∃ k, d = k + 1 := ⟨d - 1, by omega⟩
  rw [rn_227 mz_0]
  unfold pkk
  have hl : law = 0 ∨ law = 1 := by omega
  have hmm : m = 0 ∨ m = 1 ∨ m = 2 ∨ m = 3 ∨ m = 4 ∨ m = 5 ∨ m = 6 := by omega
  rcases hl with rfl | rfl <;> rcases hmm with rfl | rfl | rfl | rfl | rfl | rfl | rfl <;> simp +decide only [h14, bd_227, k_1, k_5, nz_1, nz_5, v_cmp, v_get, v_int, v_loc, v_mat, v_or, v_tern, v_z, w_ret, List.getElem?_cons_zero, List.getElem?_cons_succ, List.set_cons_zero, List.set_cons_succ, ee_cmp0, ee_cmp1, ee_cmp2, ee_cmp3, ee_cmp4, ee_cmp5, ee_cmpL0, ee_cmpL1, ee_cmpL2, ee_cmpL3, ee_cmpL4, ee_cmpL5, ee_tru_eb, decide_eq_true_eq, ib_i, ie_b, ie_f, ie_t, ib_l, fin_i, fin_l, fin_v, fin_z, fin_a, fin_n, ee_b_0, ee_fld0, ee_fld1, ee_fld2, ee_fld3, bi_0, bi_1, bi_2, bi_3, bi_4, bi_5, bi_6, bi_7, bi_8, bi_9, bi_10, bl_20, bl_21, bl_22, bl_23, bl_24, bl_25, bl_26, bl_48, bl_49, un_0, un_1, un_2, un_3, if_true, if_false, ite_true, ite_false, Bool.false_eq_true, Bool.not_eq_false, decide_not, Bool.not_not, reduceCtorEq, st_i, st_l, st_r, st_n, ee_noL, ee_noL.eq_1, List.length_cons, List.length_nil, Nat.reduceAdd, Nat.reduceLT, Nat.zero_add, and_true, true_and, and_self, fin_ite, pu_0, pu_1, pu_3, sto_0, el_0, Bool.not_eq_true, decide_eq_false_iff_not, Bool.decide_eq_true, Bool.decide_eq_false, decide_true, decide_false, Bool.not_true, Bool.not_false, Bool.and_self, Bool.and_true, Bool.and_false, Bool.true_and, Bool.false_and, Bool.or_true, Bool.or_false, Bool.true_or, Bool.false_or, if_true, if_false, Bool.false_eq_true, ix_1, ix_5, tc_1, tc_5, mz_0, mz_1, mz_a, rvs, j_s, j_a, wI_at, Nat.reduceEqDiff, zero_ne_one_n, one_ne_zero_n] <;> rfl
theorem m_b2 (hd : 7 ≤ d) (h : MP w n f i t W ks O wh) (hk : (tkn f n i).1 = 38) (hv : 9999 < (tkn f n i).2.1) : ee_run ee_B P d 224 [.ref 236] w = some ([.int 2], w) := by
  obtain ⟨d, rfl⟩ : ∃ k, d = k + 1 := ⟨d - 1, by omega⟩
  obtain ⟨-, h2, -, -⟩ := h
  have q1 := mq_1 h2
  obtain ⟨u, u1, u2, u3⟩ := mt_num h2 hk
  have kt : ((tok f n (rnq isBi f n (tpos f n i))).1 = 38) = True := eq_true hk
  have hv : 9999 < (tok f n (rnq isBi f n (tpos f n i))).2.1 := hv
  have c : (9999 : Int32) < Int32.ofNat u := (j_lt (a := 9999) (by omega) (by omega)).2 (by omega)
  rw [rn_224 mz_0]
  simp only [q1, kt, u1, c, bd_224, k_0, k_1, k_101, k_102, k_105, k_108, k_110, k_111, k_114, k_116, k_117, k_118, k_2, k_20, k_4, k_40, k_41, k_45, k_5, k_7, k_97, k_99, k_9999, nz_1, nz_101, nz_102, nz_105, nz_108, nz_110, nz_111, nz_114, nz_116, nz_117, nz_118, nz_2, nz_20, nz_4, nz_40, nz_41, nz_45, nz_5, nz_7, nz_97, nz_99, nz_9999, v_and, v_call, v_cmp, v_cons, v_get, v_int, v_loc, v_nil, v_not, v_or, v_tern, v_z, w_exp0, w_exp1, w_if, w_put, w_ret, w_seq, w_set, List.getElem?_cons_zero, List.getElem?_cons_succ, List.set_cons_zero, List.set_cons_succ, ee_cmp0, ee_cmp1, ee_cmp2, ee_cmp3, ee_cmp4, ee_cmp5, ee_cmpL0, ee_cmpL1, ee_cmpL2, ee_cmpL3, ee_cmpL4, ee_cmpL5, ee_tru_eb, decide_eq_true_eq, ib_i, ie_b, ie_f, ie_t, ib_l, fin_i, fin_l, fin_v, fin_z, fin_a, fin_n, ee_b_0, ee_fld0, ee_fld1, ee_fld2, ee_fld3, bi_0, bi_1, bi_2, bi_3, bi_4, bi_5, bi_6, bi_7, bi_8, bi_9, bi_10, bl_20, bl_21, bl_22, bl_23, bl_24, bl_25, bl_26, bl_48, bl_49, un_0, un_1, un_2, un_3, if_true, if_false, ite_true, ite_false, Bool.false_eq_true, Bool.not_eq_false, decide_not, Bool.not_not, reduceCtorEq, st_i, st_l, st_r, st_n, ee_noL, ee_noL.eq_1, List.length_cons, List.length_nil, Nat.reduceAdd, Nat.reduceLT, Nat.zero_add, and_true, true_and, and_self, fin_ite, pu_0, pu_1, pu_3, sto_0, el_0, Bool.not_eq_true, decide_eq_false_iff_not, Bool.decide_eq_true, Bool.decide_eq_false, decide_true, decide_false, Bool.not_true, Bool.not_false, Bool.and_self, Bool.and_true, Bool.and_false, Bool.true_and, Bool.false_and, Bool.or_true, Bool.or_false, Bool.true_or, Bool.false_or, if_true, if_false, Bool.false_eq_true, ix_0, ix_1, ix_101, ix_102, ix_105, ix_108, ix_110, ix_111, ix_114, ix_116, ix_117, ix_118, ix_2, ix_20, ix_4, ix_40, ix_41, ix_45, ix_5, ix_7, ix_97, ix_99, ix_9999, tc_0, tc_1, tc_101, tc_102, tc_105, tc_108, tc_110, tc_111, tc_114, tc_116, tc_117, tc_118, tc_2, tc_20, tc_4, tc_40, tc_41, tc_45, tc_5, tc_7, tc_97, tc_99, tc_9999, mz_0, mz_1, mz_a, rvs, j_s, j_a, wI_at, Nat.reduceEqDiff, zero_ne_one_n, one_ne_zero_n]
theorem m_b5 (hd : 7 ≤ d) (h : MP w n f i t W ks O wh) (hlaw : law ≤ 1) (h14 : w.1 236 14 = Int32.ofNat law) (hk : (tkn f n i).1 = pkk law) : ee_run ee_B P d 224 [.ref 236] w = some ([.int 5], w) := by
  obtain ⟨d, rfl⟩ : ∃ k, d = k + 1 := ⟨d - 1, by omega⟩
  have pk : pkk law = 23 ∨ pkk law = 24 := by unfold pkk; split <;> omega
  have hk' : (tok f n (rnq isBi f n (tpos f n i))).1 = pkk law := hk
  have no := m_nameOf (P := P) (d := d) (by omega) h.1 h.2.1
  obtain ⟨-, h2, -, -⟩ := h
  have q1 := mq_1 h2
  have io := m_isOf (P := P) (w := w) (d := d) (by omega) (m := pkk law - 18) (by omega) hlaw h14
  rw [show pkk law - 18 + 18 = pkk law by omega, decide_eq_false (fun z => z rfl)] at io
  rw [hk'] at no
  rw [if_pos (by omega)] at no
  have kn : ¬ (tok f n (rnq isBi f n (tpos f n i))).1 = 38 := by omega
  have z : (0 : Int32) ≤ Int32.ofNat (pkk law - 18) := (j_le (a := 0) (by omega) (by omega)).2 (by omega)
  rw [rn_224 mz_0]
  simp only [q1, kn, no, z, io, bd_224, k_0, k_1, k_101, k_102, k_105, k_108, k_110, k_111, k_114, k_116, k_117, k_118, k_2, k_20, k_4, k_40, k_41, k_45, k_5, k_7, k_97, k_99, k_9999, nz_1, nz_101, nz_102, nz_105, nz_108, nz_110, nz_111, nz_114, nz_116, nz_117, nz_118, nz_2, nz_20, nz_4, nz_40, nz_41, nz_45, nz_5, nz_7, nz_97, nz_99, nz_9999, v_and, v_call, v_cmp, v_cons, v_get, v_int, v_loc, v_nil, v_not, v_or, v_tern, v_z, w_exp0, w_exp1, w_if, w_put, w_ret, w_seq, w_set, List.getElem?_cons_zero, List.getElem?_cons_succ, List.set_cons_zero, List.set_cons_succ, ee_cmp0, ee_cmp1, ee_cmp2, ee_cmp3, ee_cmp4, ee_cmp5, ee_cmpL0, ee_cmpL1, ee_cmpL2, ee_cmpL3, ee_cmpL4, ee_cmpL5, ee_tru_eb, decide_eq_true_eq, ib_i, ie_b, ie_f, ie_t, ib_l, fin_i, fin_l, fin_v, fin_z, fin_a, fin_n, ee_b_0, ee_fld0, ee_fld1, ee_fld2, ee_fld3, bi_0, bi_1, bi_2, bi_3, bi_4, bi_5, bi_6, bi_7, bi_8, bi_9, bi_10, bl_20, bl_21, bl_22, bl_23, bl_24, bl_25, bl_26, bl_48, bl_49, un_0, un_1, un_2, un_3, if_true, if_false, ite_true, ite_false, Bool.false_eq_true, Bool.not_eq_false, decide_not, Bool.not_not, reduceCtorEq, st_i, st_l, st_r, st_n, ee_noL, ee_noL.eq_1, List.length_cons, List.length_nil, Nat.reduceAdd, Nat.reduceLT, Nat.zero_add, and_true, true_and, and_self, fin_ite, pu_0, pu_1, pu_3, sto_0, el_0, Bool.not_eq_true, decide_eq_false_iff_not, Bool.decide_eq_true, Bool.decide_eq_false, decide_true, decide_false, Bool.not_true, Bool.not_false, Bool.and_self, Bool.and_true, Bool.and_false, Bool.true_and, Bool.false_and, Bool.or_true, Bool.or_false, Bool.true_or, Bool.false_or, if_true, if_false, Bool.false_eq_true, ix_0, ix_1, ix_101, ix_102, ix_105, ix_108, ix_110, ix_111, ix_114, ix_116, ix_117, ix_118, ix_2, ix_20, ix_4, ix_40, ix_41, ix_45, ix_5, ix_7, ix_97, ix_99, ix_9999, tc_0, tc_1, tc_101, tc_102, tc_105, tc_108, tc_110, tc_111, tc_114, tc_116, tc_117, tc_118, tc_2, tc_20, tc_4, tc_40, tc_41, tc_45, tc_5, tc_7, tc_97, tc_99, tc_9999, mz_0, mz_1, mz_a, rvs, j_s, j_a, wI_at, Nat.reduceEqDiff, zero_ne_one_n, one_ne_zero_n]
/-- the world behind an instruction, and what the reference stands at -/
theorem MP_em (h : MP w n f i t W ks O wh) (hW : W < 300) (o v : Int32) : MP (emm w t W o v) n f i t (W + 1) ks O wh ∧ chk (pem t) w (emm w t W o v) := by
  obtain ⟨h1, h2, ⟨e1, e2, e3, e4, e5, e6, e7, e8, e9⟩, h4⟩ := h
  have hc := emm_c (t := t) hW (chk_refl (pem t) w) o v
  refine ⟨⟨MTAP_m h1 hc, MTK_m h2 hc rfl, ⟨e1, by omega, ?_, ?_, PIL_eq _ e5 (fun j hj => ?_), ?_, ?_, e8, e9⟩, ?_⟩, hc⟩
  · unfold emm; rw [wI_at, if_neg (by omega), wI_at, if_neg (by omega), wI_at, if_neg (by omega)]; exact e3
  · unfold emm; rw [wI_at, if_pos ⟨rfl, rfl⟩]
  · unfold emm; rw [wI_at, if_neg (by omega), wI_at, if_neg (by omega), wI_at, if_neg (by omega)]
  · unfold emm; rw [wI_at, if_neg (by omega), wI_at, if_neg (by omega), wI_at, if_neg (by omega)]; exact e6
  · unfold emm; rw [wI_at, if_neg (by omega), wI_at, if_neg (by omega), wI_at, if_neg (by omega)]; exact e7
  · unfold emm; rw [wI_at, if_neg (by omega), wI_at, if_neg (by omega), wI_at, if_neg (by omega)]; exact h4
/-- whole or not -/
theorem MP_wh (h : MP w n f i t W ks O wh) (b : Bool) : MP (ee_wI w 236 18 (ee_b b)) n f i t W ks O b ∧ chk (pem t) w (ee_wI w 236 18 (ee_b b)) ∧ ∀ k, mcode (ee_wI w 236 18 (ee_b b)) t k = mcode w t k := by
  obtain ⟨h1, h2, ⟨e1, e2, e3, e4, e5, e6, e7, e8, e9⟩, h4⟩ := h
  have hc : chk (pem t) w (ee_wI w 236 18 (ee_b b)) := chk_I (Or.inl ⟨rfl, Or.inr (Or.inr (Or.inr rfl))⟩) (chk_refl _ _)
  refine ⟨⟨MTAP_m h1 hc, MTK_m h2 hc rfl, ⟨e1, e2, ?_, ?_, PIL_eq _ e5 (fun j hj => ?_), ?_, ?_, e8, e9⟩, ?_⟩, hc, fun k => ?_⟩
  · rw [wI_at, if_neg (by omega)]; exact e3
  · rw [wI_at, if_neg (by omega)]; exact e4
  · rw [wI_at, if_neg (by omega)]
  · rw [wI_at, if_neg (by omega)]; exact e6
  · rw [wI_at, if_neg (by omega)]; exact e7
  · rw [wI_at, if_pos ⟨rfl, rfl⟩]
  · unfold mcode; rw [wI_at, if_neg (by omega), wI_at, if_neg (by omega)]
/-- settling, and what the reference stands at -/
theorem MP_settle (hd : 2 ≤ d) {least : Nat} (hl : least ≤ 7) (hl1 : 1 ≤ least) (h : MP w n f i t W (us ++ ks) O wh) (hu : ∀ o ∈ us, least ≤ rnk o) (hk : ∀ h r, ks = h :: r → rnk h < least) (hW : W + us.length ≤ 300) (hO : ops us ≤ O) :
    ∃ w', ee_run ee_B P d 221 [.ref 236, .int (Int32.ofNat least)] w = some ([], w') ∧ MP w' n f i t (W + us.length) ks (O - ops us) wh ∧ emo (mcode w' t) W us ∧ (∀ k, k < W → mcode w' t k = mcode w t k) ∧ chk (pem t) w w' := by
  obtain ⟨h1, h2, h3, h4⟩ := h
  obtain ⟨w', g1, g2, g3, g4, g5, g6, g7, g8⟩ := m_settle (P := P) (d := d) hd hl hl1 us w W O h3 hu hk hW hO
  exact ⟨w', g1, ⟨MTAP_m h1 g5, MTK_m h2 g5 g8, g2, g6.trans h4⟩, g3, g4, g5⟩
/-- a number or a name -/
theorem m_bleaf (hd : 7 ≤ d) (hb : ∀ i, i < n → bI (f i) 0 255) (h : MP w n f i t W (us ++ ks) O wh) (hlaw : law ≤ 1) (h14 : w.1 236 14 = Int32.ofNat law) (hu : ∀ o ∈ us, 7 ≤ rnk o) (hk : ∀ h r, ks = h :: r → rnk h < 7) (hW : W + 1 + us.length ≤ 300) (hO : ops us ≤ O)
    (hc : ((tkn f n i).1 = 38 ∧ (tkn f n i).2.1 ≤ 9999) ∨ (18 ≤ (tkn f n i).1 ∧ (tkn f n i).1 ≤ 24 ∧ (tkn f n i).1 ≠ pkk law)) :
    ∃ w', ee_run ee_B P d 224 [.ref 236] w = some ([.int 0], w') ∧ MP w' n f (i + 1) t (W + 1 + us.length) ks (O - ops us) true ∧ mcode w' t W = (if (tkn f n i).1 = 38 then (0, Int32.ofNat (tkn f n i).2.1) else (1, Int32.ofNat ((tkn f n i).1 - 18))) ∧ emo (mcode w' t) (W + 1) us ∧ (∀ k, k < W → mcode w' t k = mcode w t k) ∧ chk (pms t) w w' := by
  obtain ⟨d, rfl⟩ : ∃ k, d = k + 1 := ⟨d - 1, by omega⟩
  have hd1 : 1 ≤ d := by omega
  have hd2 : 2 ≤ d := by omega
  have no := m_nameOf (P := P) (d := d) (by omega) h.1 h.2.1
  have q1 := mq_1 h.2.1
  have hE := h.2.2.1
  -- what is written
  obtain ⟨o, v, hov⟩ : ∃ o v : Int32, (o, v) = (if (tkn f n i).1 = 38 then ((0 : Int32), Int32.ofNat (tkn f n i).2.1) else (1, Int32.ofNat ((tkn f n i).1 - 18))) := ⟨_, _, rfl⟩
  have em := m_emitM (P := P) hd1 hE.1 hE.2.2.1 hE.2.2.2.1 (show W < 300 by omega) o v
  obtain ⟨a1, a2⟩ := MP_em h (show W < 300 by omega) o v
  obtain ⟨k1, k2⟩ := emm_code (W := W) w t o v
  obtain ⟨w1, hw1⟩ : ∃ w1, w1 = emm w t W o v := ⟨_, rfl⟩
  rw [← hw1] at em a1 a2 k1 k2
  obtain ⟨w2, b1, b2, b3⟩ := m_stepn (P := P) (d := d) hd2 hb a1
  obtain ⟨c1, c2, c3⟩ := MP_wh b2 true
  obtain ⟨w3, hw3⟩ : ∃ w3, w3 = ee_wI w2 236 18 (ee_b true) := ⟨_, rfl⟩
  rw [← hw3] at c1 c2 c3
  obtain ⟨w', g1, g2, g3, g4, g5⟩ := MP_settle (P := P) (d := d) hd2 (Nat.le_refl 7) (by omega) c1 hu hk hW hO
  rw [k_7] at g1
  have kc : ∀ k, mcode w3 t k = mcode w1 t k := fun k => (c3 k).trans (code_p b3 k)
  refine ⟨w', ?_, g2, by rw [g4 W (by omega), kc, k1, hov], g3, fun k hk => by rw [g4 k (by omega), kc, k2 k (by omega)], chk_trans (pms_e a2) (chk_trans (pms_c b3) (chk_trans (pms_e c2) (pms_e g5)))⟩
  have et : ee_b true = 1 := rfl
  have p18 : ∀ w : ee_W, ee_put w 236 18 3 (.int 1) = some (ee_wI w 236 18 1) := fun w => rfl
  rw [rn_224 mz_0]
  rcases hc with ⟨y1, y2⟩ | ⟨y1, y2, y3⟩
  · obtain ⟨u, u1, u2, u3⟩ := mt_num h.2.1 y1
    have y2' : (tok f n (rnq isBi f n (tpos f n i))).2.1 ≤ 9999 := y2
    have kt : ((tok f n (rnq isBi f n (tpos f n i))).1 = 38) = True := eq_true y1
    have uv : u = (tkn f n i).2.1 := by show u = (tok f n (rnq isBi f n (tpos f n i))).2.1; omega
    have c : ¬ (9999 : Int32) < Int32.ofNat u := fun z => by have := (j_lt (a := 9999) (by omega) (by omega)).1 z; omega
    have nn : ¬ (18 ≤ (tok f n (rnq isBi f n (tpos f n i))).1 ∧ (tok f n (rnq isBi f n (tpos f n i))).1 ≤ 24) := fun z => by
      have : (tok f n (rnq isBi f n (tpos f n i))).1 = 38 := y1
      omega
    have z1 : ¬ (0 : Int32) ≤ -1 := by decide
    rw [if_neg nn] at no
    rw [if_pos y1, ← uv] at hov
    injection hov with ho hv
    rw [ho, hv] at em
    rw [et] at hw3
    simp only [q1, kt, u1, c, no, z1, em, b1, p18, ← hw3, g1, bd_224, k_0, k_1, k_101, k_102, k_105, k_108, k_110, k_111, k_114, k_116, k_117, k_118, k_2, k_20, k_4, k_40, k_41, k_45, k_5, k_7, k_97, k_99, k_9999, nz_1, nz_101, nz_102, nz_105, nz_108, nz_110, nz_111, nz_114, nz_116, nz_117, nz_118, nz_2, nz_20, nz_4, nz_40, nz_41, nz_45, nz_5, nz_7, nz_97, nz_99, nz_9999, v_and, v_call, v_cmp, v_cons, v_get, v_int, v_loc, v_nil, v_not, v_or, v_tern, v_z, w_exp0, w_exp1, w_if, w_put, w_ret, w_seq, w_set, List.getElem?_cons_zero, List.getElem?_cons_succ, List.set_cons_zero, List.set_cons_succ, ee_cmp0, ee_cmp1, ee_cmp2, ee_cmp3, ee_cmp4, ee_cmp5, ee_cmpL0, ee_cmpL1, ee_cmpL2, ee_cmpL3, ee_cmpL4, ee_cmpL5, ee_tru_eb, decide_eq_true_eq, ib_i, ie_b, ie_f, ie_t, ib_l, fin_i, fin_l, fin_v, fin_z, fin_a, fin_n, ee_b_0, ee_fld0, ee_fld1, ee_fld2, ee_fld3, bi_0, bi_1, bi_2, bi_3, bi_4, bi_5, bi_6, bi_7, bi_8, bi_9, bi_10, bl_20, bl_21, bl_22, bl_23, bl_24, bl_25, bl_26, bl_48, bl_49, un_0, un_1, un_2, un_3, if_true, if_false, ite_true, ite_false, Bool.false_eq_true, Bool.not_eq_false, decide_not, Bool.not_not, reduceCtorEq, st_i, st_l, st_r, st_n, ee_noL, ee_noL.eq_1, List.length_cons, List.length_nil, Nat.reduceAdd, Nat.reduceLT, Nat.zero_add, and_true, true_and, and_self, fin_ite, pu_0, pu_1, pu_3, sto_0, el_0, Bool.not_eq_true, decide_eq_false_iff_not, Bool.decide_eq_true, Bool.decide_eq_false, decide_true, decide_false, Bool.not_true, Bool.not_false, Bool.and_self, Bool.and_true, Bool.and_false, Bool.true_and, Bool.false_and, Bool.or_true, Bool.or_false, Bool.true_or, Bool.false_or, if_true, if_false, Bool.false_eq_true, ix_0, ix_1, ix_101, ix_102, ix_105, ix_108, ix_110, ix_111, ix_114, ix_116, ix_117, ix_118, ix_2, ix_20, ix_4, ix_40, ix_41, ix_45, ix_5, ix_7, ix_97, ix_99, ix_9999, tc_0, tc_1, tc_101, tc_102, tc_105, tc_108, tc_110, tc_111, tc_114, tc_116, tc_117, tc_118, tc_2, tc_20, tc_4, tc_40, tc_41, tc_45, tc_5, tc_7, tc_97, tc_99, tc_9999, mz_0, mz_1, mz_a, rvs, j_s, j_a, wI_at, Nat.reduceEqDiff, zero_ne_one_n, one_ne_zero_n]
  · have kn : ¬ (tok f n (rnq isBi f n (tpos f n i))).1 = 38 := fun z => by
      have z : (tkn f n i).1 = 38 := z
      omega
    rw [if_pos (show 18 ≤ (tok f n (rnq isBi f n (tpos f n i))).1 ∧ (tok f n (rnq isBi f n (tpos f n i))).1 ≤ 24 from ⟨y1, y2⟩)] at no
    have kn' : ¬ (tkn f n i).1 = 38 := kn
    rw [if_neg kn'] at hov
    injection hov with ho hv
    rw [ho, hv] at em
    rw [et] at hw3
    have io := m_isOf (P := P) (w := w) (d := d) hd1 (m := (tkn f n i).1 - 18) (by omega) hlaw h14
    rw [show (tkn f n i).1 - 18 + 18 = (tkn f n i).1 by omega, decide_eq_true y3] at io
    have z : (0 : Int32) ≤ Int32.ofNat ((tkn f n i).1 - 18) := (j_le (a := 0) (by omega) (by omega)).2 (by omega)
    have no : ee_run ee_B P d 225 [.ref 236] w = some ([.int (Int32.ofNat ((tkn f n i).1 - 18))], w) := no
    simp only [q1, kn, no, z, io, em, b1, p18, ← hw3, g1, bd_224, k_0, k_1, k_101, k_102, k_105, k_108, k_110, k_111, k_114, k_116, k_117, k_118, k_2, k_20, k_4, k_40, k_41, k_45, k_5, k_7, k_97, k_99, k_9999, nz_1, nz_101, nz_102, nz_105, nz_108, nz_110, nz_111, nz_114, nz_116, nz_117, nz_118, nz_2, nz_20, nz_4, nz_40, nz_41, nz_45, nz_5, nz_7, nz_97, nz_99, nz_9999, v_and, v_call, v_cmp, v_cons, v_get, v_int, v_loc, v_nil, v_not, v_or, v_tern, v_z, w_exp0, w_exp1, w_if, w_put, w_ret, w_seq, w_set, List.getElem?_cons_zero, List.getElem?_cons_succ, List.set_cons_zero, List.set_cons_succ, ee_cmp0, ee_cmp1, ee_cmp2, ee_cmp3, ee_cmp4, ee_cmp5, ee_cmpL0, ee_cmpL1, ee_cmpL2, ee_cmpL3, ee_cmpL4, ee_cmpL5, ee_tru_eb, decide_eq_true_eq, ib_i, ie_b, ie_f, ie_t, ib_l, fin_i, fin_l, fin_v, fin_z, fin_a, fin_n, ee_b_0, ee_fld0, ee_fld1, ee_fld2, ee_fld3, bi_0, bi_1, bi_2, bi_3, bi_4, bi_5, bi_6, bi_7, bi_8, bi_9, bi_10, bl_20, bl_21, bl_22, bl_23, bl_24, bl_25, bl_26, bl_48, bl_49, un_0, un_1, un_2, un_3, if_true, if_false, ite_true, ite_false, Bool.false_eq_true, Bool.not_eq_false, decide_not, Bool.not_not, reduceCtorEq, st_i, st_l, st_r, st_n, ee_noL, ee_noL.eq_1, List.length_cons, List.length_nil, Nat.reduceAdd, Nat.reduceLT, Nat.zero_add, and_true, true_and, and_self, fin_ite, pu_0, pu_1, pu_3, sto_0, el_0, Bool.not_eq_true, decide_eq_false_iff_not, Bool.decide_eq_true, Bool.decide_eq_false, decide_true, decide_false, Bool.not_true, Bool.not_false, Bool.and_self, Bool.and_true, Bool.and_false, Bool.true_and, Bool.false_and, Bool.or_true, Bool.or_false, Bool.true_or, Bool.false_or, if_true, if_false, Bool.false_eq_true, ix_0, ix_1, ix_101, ix_102, ix_105, ix_108, ix_110, ix_111, ix_114, ix_116, ix_117, ix_118, ix_2, ix_20, ix_4, ix_40, ix_41, ix_45, ix_5, ix_7, ix_97, ix_99, ix_9999, tc_0, tc_1, tc_101, tc_102, tc_105, tc_108, tc_110, tc_111, tc_114, tc_116, tc_117, tc_118, tc_2, tc_20, tc_4, tc_40, tc_41, tc_45, tc_5, tc_7, tc_97, tc_99, tc_9999, mz_0, mz_1, mz_a, rvs, j_s, j_a, wI_at, Nat.reduceEqDiff, zero_ne_one_n, one_ne_zero_n]
/-- what opens -/
def bgo (K : Nat) (ks : List Nat) : Nat := if K = 35 then 40 else if K = 32 then 5 else if K = 9 then 2 else if K = 10 then 4 else if K = 11 then 41 else if K = 15 ∧ iah ks = true then 20 else 0
theorem m_bopen (hd : 7 ≤ d) (h : MP w n f i t W ks O wh) (hc : (tkn f n i).1 ≠ 38 ∧ ¬ (18 ≤ (tkn f n i).1 ∧ (tkn f n i).1 ≤ 24)) :
    ∃ e, e + 1 = d ∧ ∀ r, (bgo (tkn f n i).1 ks = 0 → r = some ([.int 1], w)) → (bgo (tkn f n i).1 ks ≠ 0 → ee_run ee_B P e 228 [.ref 236, .int (Int32.ofNat (bgo (tkn f n i).1 ks))] w = r ∧ ∃ x w', r = some ([.int x], w')) → ee_run ee_B P d 224 [.ref 236] w = r := by
  obtain ⟨d, rfl⟩ : ∃ k, d = k + 1 := ⟨d - 1, by omega⟩
  refine ⟨d, rfl, fun r h0 h1 => ?_⟩
  have hd1 : 1 ≤ d := by omega
  have hd2 : 2 ≤ d := by omega
  have hd4 : 4 ≤ d := by omega
  have hd5 : 5 ≤ d := by omega
  have no := m_nameOf (P := P) (d := d) (by omega) h.1 h.2.1
  have ia := m_isAskAhead (P := P) (d := d) (by omega) (EMT_h h.2.2.1)
  obtain ⟨-, h2, -, -⟩ := h
  have q1 := mq_1 h2
  have q40 := mq_40 h2
  have q45 := mq_45 h2
  have i9 := m_isWord (P := P) (w := w) hd1 h2 (k := 9) (by omega) (by omega)
  have i10 := m_isWord (P := P) (w := w) hd1 h2 (k := 10) (by omega) (by omega)
  have i11 := m_isWord (P := P) (w := w) hd1 h2 (k := 11) (by omega) (by omega)
  have i15 := m_isWord (P := P) (w := w) hd1 h2 (k := 15) (by omega) (by omega)
  have w9 := wc_9 (P := P) (w := w) hd4
  have w10 := wc_10 (P := P) (w := w) hd5
  have w11 := wc_11 (P := P) (w := w) hd1
  have w15 := wc_15 (P := P) (w := w) hd2
  have z1 : ¬ (0 : Int32) ≤ -1 := by decide
  rw [rn_224 mz_0]
  unfold tkn tokB at hc h0 h1
  generalize (tok f n (rnq isBi f n (tpos f n i))).1 = K at *
  obtain ⟨c38, cnm⟩ := hc
  rw [if_neg cnm] at no
  unfold bgo at h0 h1
  by_cases c35 : K = 35
  · have ct : (K = 35) = True := eq_true c35
    rw [if_pos c35] at h1
    obtain ⟨g1, x, w', g2⟩ := h1 (by omega)
    rw [g2] at g1 ⊢
    rw [k_40] at g1
    simp only [q1, c38, no, z1, q40, ct, g1, bd_224, k_0, k_1, k_101, k_102, k_105, k_108, k_110, k_111, k_114, k_116, k_117, k_118, k_2, k_20, k_4, k_40, k_41, k_45, k_5, k_7, k_97, k_99, k_9999, nz_1, nz_101, nz_102, nz_105, nz_108, nz_110, nz_111, nz_114, nz_116, nz_117, nz_118, nz_2, nz_20, nz_4, nz_40, nz_41, nz_45, nz_5, nz_7, nz_97, nz_99, nz_9999, v_and, v_call, v_cmp, v_cons, v_get, v_int, v_loc, v_nil, v_not, v_or, v_tern, v_z, w_exp0, w_exp1, w_if, w_put, w_ret, w_seq, w_set, List.getElem?_cons_zero, List.getElem?_cons_succ, List.set_cons_zero, List.set_cons_succ, ee_cmp0, ee_cmp1, ee_cmp2, ee_cmp3, ee_cmp4, ee_cmp5, ee_cmpL0, ee_cmpL1, ee_cmpL2, ee_cmpL3, ee_cmpL4, ee_cmpL5, ee_tru_eb, decide_eq_true_eq, ib_i, ie_b, ie_f, ie_t, ib_l, fin_i, fin_l, fin_v, fin_z, fin_a, fin_n, ee_b_0, ee_fld0, ee_fld1, ee_fld2, ee_fld3, bi_0, bi_1, bi_2, bi_3, bi_4, bi_5, bi_6, bi_7, bi_8, bi_9, bi_10, bl_20, bl_21, bl_22, bl_23, bl_24, bl_25, bl_26, bl_48, bl_49, un_0, un_1, un_2, un_3, if_true, if_false, ite_true, ite_false, Bool.false_eq_true, Bool.not_eq_false, decide_not, Bool.not_not, reduceCtorEq, st_i, st_l, st_r, st_n, ee_noL, ee_noL.eq_1, List.length_cons, List.length_nil, Nat.reduceAdd, Nat.reduceLT, Nat.zero_add, and_true, true_and, and_self, fin_ite, pu_0, pu_1, pu_3, sto_0, el_0, Bool.not_eq_true, decide_eq_false_iff_not, Bool.decide_eq_true, Bool.decide_eq_false, decide_true, decide_false, Bool.not_true, Bool.not_false, Bool.and_self, Bool.and_true, Bool.and_false, Bool.true_and, Bool.false_and, Bool.or_true, Bool.or_false, Bool.true_or, Bool.false_or, if_true, if_false, Bool.false_eq_true, ix_0, ix_1, ix_101, ix_102, ix_105, ix_108, ix_110, ix_111, ix_114, ix_116, ix_117, ix_118, ix_2, ix_20, ix_4, ix_40, ix_41, ix_45, ix_5, ix_7, ix_97, ix_99, ix_9999, tc_0, tc_1, tc_101, tc_102, tc_105, tc_108, tc_110, tc_111, tc_114, tc_116, tc_117, tc_118, tc_2, tc_20, tc_4, tc_40, tc_41, tc_45, tc_5, tc_7, tc_97, tc_99, tc_9999, mz_0, mz_1, mz_a, rvs, j_s, j_a, wI_at, Nat.reduceEqDiff, zero_ne_one_n, one_ne_zero_n]
  rw [if_neg c35] at h0 h1
  by_cases c32 : K = 32
  · have ct : (K = 32) = True := eq_true c32
    rw [if_pos c32] at h1
    obtain ⟨g1, x, w', g2⟩ := h1 (by omega)
    rw [g2] at g1 ⊢
    rw [k_5] at g1
    simp only [q1, c38, no, z1, q40, c35, q45, ct, g1, bd_224, k_0, k_1, k_101, k_102, k_105, k_108, k_110, k_111, k_114, k_116, k_117, k_118, k_2, k_20, k_4, k_40, k_41, k_45, k_5, k_7, k_97, k_99, k_9999, nz_1, nz_101, nz_102, nz_105, nz_108, nz_110, nz_111, nz_114, nz_116, nz_117, nz_118, nz_2, nz_20, nz_4, nz_40, nz_41, nz_45, nz_5, nz_7, nz_97, nz_99, nz_9999, v_and, v_call, v_cmp, v_cons, v_get, v_int, v_loc, v_nil, v_not, v_or, v_tern, v_z, w_exp0, w_exp1, w_if, w_put, w_ret, w_seq, w_set, List.getElem?_cons_zero, List.getElem?_cons_succ, List.set_cons_zero, List.set_cons_succ, ee_cmp0, ee_cmp1, ee_cmp2, ee_cmp3, ee_cmp4, ee_cmp5, ee_cmpL0, ee_cmpL1, ee_cmpL2, ee_cmpL3, ee_cmpL4, ee_cmpL5, ee_tru_eb, decide_eq_true_eq, ib_i, ie_b, ie_f, ie_t, ib_l, fin_i, fin_l, fin_v, fin_z, fin_a, fin_n, ee_b_0, ee_fld0, ee_fld1, ee_fld2, ee_fld3, bi_0, bi_1, bi_2, bi_3, bi_4, bi_5, bi_6, bi_7, bi_8, bi_9, bi_10, bl_20, bl_21, bl_22, bl_23, bl_24, bl_25, bl_26, bl_48, bl_49, un_0, un_1, un_2, un_3, if_true, if_false, ite_true, ite_false, Bool.false_eq_true, Bool.not_eq_false, decide_not, Bool.not_not, reduceCtorEq, st_i, st_l, st_r, st_n, ee_noL, ee_noL.eq_1, List.length_cons, List.length_nil, Nat.reduceAdd, Nat.reduceLT, Nat.zero_add, and_true, true_and, and_self, fin_ite, pu_0, pu_1, pu_3, sto_0, el_0, Bool.not_eq_true, decide_eq_false_iff_not, Bool.decide_eq_true, Bool.decide_eq_false, decide_true, decide_false, Bool.not_true, Bool.not_false, Bool.and_self, Bool.and_true, Bool.and_false, Bool.true_and, Bool.false_and, Bool.or_true, Bool.or_false, Bool.true_or, Bool.false_or, if_true, if_false, Bool.false_eq_true, ix_0, ix_1, ix_101, ix_102, ix_105, ix_108, ix_110, ix_111, ix_114, ix_116, ix_117, ix_118, ix_2, ix_20, ix_4, ix_40, ix_41, ix_45, ix_5, ix_7, ix_97, ix_99, ix_9999, tc_0, tc_1, tc_101, tc_102, tc_105, tc_108, tc_110, tc_111, tc_114, tc_116, tc_117, tc_118, tc_2, tc_20, tc_4, tc_40, tc_41, tc_45, tc_5, tc_7, tc_97, tc_99, tc_9999, mz_0, mz_1, mz_a, rvs, j_s, j_a, wI_at, Nat.reduceEqDiff, zero_ne_one_n, one_ne_zero_n]
  rw [if_neg c32] at h0 h1
  by_cases c9 : K = 9
  · have ct : (K = 9) = True := eq_true c9
    rw [if_pos c9] at h1
    obtain ⟨g1, x, w', g2⟩ := h1 (by omega)
    rw [g2] at g1 ⊢
    rw [k_2] at g1
    simp only [q1, c38, no, z1, q40, c35, q45, c32, w9, i9, ct, g1, bd_224, k_0, k_1, k_101, k_102, k_105, k_108, k_110, k_111, k_114, k_116, k_117, k_118, k_2, k_20, k_4, k_40, k_41, k_45, k_5, k_7, k_97, k_99, k_9999, nz_1, nz_101, nz_102, nz_105, nz_108, nz_110, nz_111, nz_114, nz_116, nz_117, nz_118, nz_2, nz_20, nz_4, nz_40, nz_41, nz_45, nz_5, nz_7, nz_97, nz_99, nz_9999, v_and, v_call, v_cmp, v_cons, v_get, v_int, v_loc, v_nil, v_not, v_or, v_tern, v_z, w_exp0, w_exp1, w_if, w_put, w_ret, w_seq, w_set, List.getElem?_cons_zero, List.getElem?_cons_succ, List.set_cons_zero, List.set_cons_succ, ee_cmp0, ee_cmp1, ee_cmp2, ee_cmp3, ee_cmp4, ee_cmp5, ee_cmpL0, ee_cmpL1, ee_cmpL2, ee_cmpL3, ee_cmpL4, ee_cmpL5, ee_tru_eb, decide_eq_true_eq, ib_i, ie_b, ie_f, ie_t, ib_l, fin_i, fin_l, fin_v, fin_z, fin_a, fin_n, ee_b_0, ee_fld0, ee_fld1, ee_fld2, ee_fld3, bi_0, bi_1, bi_2, bi_3, bi_4, bi_5, bi_6, bi_7, bi_8, bi_9, bi_10, bl_20, bl_21, bl_22, bl_23, bl_24, bl_25, bl_26, bl_48, bl_49, un_0, un_1, un_2, un_3, if_true, if_false, ite_true, ite_false, Bool.false_eq_true, Bool.not_eq_false, decide_not, Bool.not_not, reduceCtorEq, st_i, st_l, st_r, st_n, ee_noL, ee_noL.eq_1, List.length_cons, List.length_nil, Nat.reduceAdd, Nat.reduceLT, Nat.zero_add, and_true, true_and, and_self, fin_ite, pu_0, pu_1, pu_3, sto_0, el_0, Bool.not_eq_true, decide_eq_false_iff_not, Bool.decide_eq_true, Bool.decide_eq_false, decide_true, decide_false, Bool.not_true, Bool.not_false, Bool.and_self, Bool.and_true, Bool.and_false, Bool.true_and, Bool.false_and, Bool.or_true, Bool.or_false, Bool.true_or, Bool.false_or, if_true, if_false, Bool.false_eq_true, ix_0, ix_1, ix_101, ix_102, ix_105, ix_108, ix_110, ix_111, ix_114, ix_116, ix_117, ix_118, ix_2, ix_20, ix_4, ix_40, ix_41, ix_45, ix_5, ix_7, ix_97, ix_99, ix_9999, tc_0, tc_1, tc_101, tc_102, tc_105, tc_108, tc_110, tc_111, tc_114, tc_116, tc_117, tc_118, tc_2, tc_20, tc_4, tc_40, tc_41, tc_45, tc_5, tc_7, tc_97, tc_99, tc_9999, mz_0, mz_1, mz_a, rvs, j_s, j_a, wI_at, Nat.reduceEqDiff, zero_ne_one_n, one_ne_zero_n]
  rw [if_neg c9] at h0 h1
  by_cases c10 : K = 10
  · have ct : (K = 10) = True := eq_true c10
    rw [if_pos c10] at h1
    obtain ⟨g1, x, w', g2⟩ := h1 (by omega)
    rw [g2] at g1 ⊢
    rw [k_4] at g1
    simp only [q1, c38, no, z1, q40, c35, q45, c32, w9, i9, c9, w10, i10, ct, g1, bd_224, k_0, k_1, k_101, k_102, k_105, k_108, k_110, k_111, k_114, k_116, k_117, k_118, k_2, k_20, k_4, k_40, k_41, k_45, k_5, k_7, k_97, k_99, k_9999, nz_1, nz_101, nz_102, nz_105, nz_108, nz_110, nz_111, nz_114, nz_116, nz_117, nz_118, nz_2, nz_20, nz_4, nz_40, nz_41, nz_45, nz_5, nz_7, nz_97, nz_99, nz_9999, v_and, v_call, v_cmp, v_cons, v_get, v_int, v_loc, v_nil, v_not, v_or, v_tern, v_z, w_exp0, w_exp1, w_if, w_put, w_ret, w_seq, w_set, List.getElem?_cons_zero, List.getElem?_cons_succ, List.set_cons_zero, List.set_cons_succ, ee_cmp0, ee_cmp1, ee_cmp2, ee_cmp3, ee_cmp4, ee_cmp5, ee_cmpL0, ee_cmpL1, ee_cmpL2, ee_cmpL3, ee_cmpL4, ee_cmpL5, ee_tru_eb, decide_eq_true_eq, ib_i, ie_b, ie_f, ie_t, ib_l, fin_i, fin_l, fin_v, fin_z, fin_a, fin_n, ee_b_0, ee_fld0, ee_fld1, ee_fld2, ee_fld3, bi_0, bi_1, bi_2, bi_3, bi_4, bi_5, bi_6, bi_7, bi_8, bi_9, bi_10, bl_20, bl_21, bl_22, bl_23, bl_24, bl_25, bl_26, bl_48, bl_49, un_0, un_1, un_2, un_3, if_true, if_false, ite_true, ite_false, Bool.false_eq_true, Bool.not_eq_false, decide_not, Bool.not_not, reduceCtorEq, st_i, st_l, st_r, st_n, ee_noL, ee_noL.eq_1, List.length_cons, List.length_nil, Nat.reduceAdd, Nat.reduceLT, Nat.zero_add, and_true, true_and, and_self, fin_ite, pu_0, pu_1, pu_3, sto_0, el_0, Bool.not_eq_true, decide_eq_false_iff_not, Bool.decide_eq_true, Bool.decide_eq_false, decide_true, decide_false, Bool.not_true, Bool.not_false, Bool.and_self, Bool.and_true, Bool.and_false, Bool.true_and, Bool.false_and, Bool.or_true, Bool.or_false, Bool.true_or, Bool.false_or, if_true, if_false, Bool.false_eq_true, ix_0, ix_1, ix_101, ix_102, ix_105, ix_108, ix_110, ix_111, ix_114, ix_116, ix_117, ix_118, ix_2, ix_20, ix_4, ix_40, ix_41, ix_45, ix_5, ix_7, ix_97, ix_99, ix_9999, tc_0, tc_1, tc_101, tc_102, tc_105, tc_108, tc_110, tc_111, tc_114, tc_116, tc_117, tc_118, tc_2, tc_20, tc_4, tc_40, tc_41, tc_45, tc_5, tc_7, tc_97, tc_99, tc_9999, mz_0, mz_1, mz_a, rvs, j_s, j_a, wI_at, Nat.reduceEqDiff, zero_ne_one_n, one_ne_zero_n]
  rw [if_neg c10] at h0 h1
  by_cases c11 : K = 11
  · have ct : (K = 11) = True := eq_true c11
    rw [if_pos c11] at h1
    obtain ⟨g1, x, w', g2⟩ := h1 (by omega)
    rw [g2] at g1 ⊢
    rw [k_41] at g1
    simp only [q1, c38, no, z1, q40, c35, q45, c32, w9, i9, c9, w10, i10, c10, w11, i11, ct, g1, bd_224, k_0, k_1, k_101, k_102, k_105, k_108, k_110, k_111, k_114, k_116, k_117, k_118, k_2, k_20, k_4, k_40, k_41, k_45, k_5, k_7, k_97, k_99, k_9999, nz_1, nz_101, nz_102, nz_105, nz_108, nz_110, nz_111, nz_114, nz_116, nz_117, nz_118, nz_2, nz_20, nz_4, nz_40, nz_41, nz_45, nz_5, nz_7, nz_97, nz_99, nz_9999, v_and, v_call, v_cmp, v_cons, v_get, v_int, v_loc, v_nil, v_not, v_or, v_tern, v_z, w_exp0, w_exp1, w_if, w_put, w_ret, w_seq, w_set, List.getElem?_cons_zero, List.getElem?_cons_succ, List.set_cons_zero, List.set_cons_succ, ee_cmp0, ee_cmp1, ee_cmp2, ee_cmp3, ee_cmp4, ee_cmp5, ee_cmpL0, ee_cmpL1, ee_cmpL2, ee_cmpL3, ee_cmpL4, ee_cmpL5, ee_tru_eb, decide_eq_true_eq, ib_i, ie_b, ie_f, ie_t, ib_l, fin_i, fin_l, fin_v, fin_z, fin_a, fin_n, ee_b_0, ee_fld0, ee_fld1, ee_fld2, ee_fld3, bi_0, bi_1, bi_2, bi_3, bi_4, bi_5, bi_6, bi_7, bi_8, bi_9, bi_10, bl_20, bl_21, bl_22, bl_23, bl_24, bl_25, bl_26, bl_48, bl_49, un_0, un_1, un_2, un_3, if_true, if_false, ite_true, ite_false, Bool.false_eq_true, Bool.not_eq_false, decide_not, Bool.not_not, reduceCtorEq, st_i, st_l, st_r, st_n, ee_noL, ee_noL.eq_1, List.length_cons, List.length_nil, Nat.reduceAdd, Nat.reduceLT, Nat.zero_add, and_true, true_and, and_self, fin_ite, pu_0, pu_1, pu_3, sto_0, el_0, Bool.not_eq_true, decide_eq_false_iff_not, Bool.decide_eq_true, Bool.decide_eq_false, decide_true, decide_false, Bool.not_true, Bool.not_false, Bool.and_self, Bool.and_true, Bool.and_false, Bool.true_and, Bool.false_and, Bool.or_true, Bool.or_false, Bool.true_or, Bool.false_or, if_true, if_false, Bool.false_eq_true, ix_0, ix_1, ix_101, ix_102, ix_105, ix_108, ix_110, ix_111, ix_114, ix_116, ix_117, ix_118, ix_2, ix_20, ix_4, ix_40, ix_41, ix_45, ix_5, ix_7, ix_97, ix_99, ix_9999, tc_0, tc_1, tc_101, tc_102, tc_105, tc_108, tc_110, tc_111, tc_114, tc_116, tc_117, tc_118, tc_2, tc_20, tc_4, tc_40, tc_41, tc_45, tc_5, tc_7, tc_97, tc_99, tc_9999, mz_0, mz_1, mz_a, rvs, j_s, j_a, wI_at, Nat.reduceEqDiff, zero_ne_one_n, one_ne_zero_n]
  rw [if_neg c11] at h0 h1
  by_cases c15 : K = 15 ∧ iah ks = true
  · have ct : (K = 15) = True := eq_true c15.1
    rw [c15.2] at ia
    rw [if_pos c15] at h1
    obtain ⟨g1, x, w', g2⟩ := h1 (by omega)
    rw [g2] at g1 ⊢
    rw [k_20] at g1
    simp only [q1, c38, no, z1, q40, c35, q45, c32, w9, i9, c9, w10, i10, c10, w11, i11, c11, w15, i15, ct, ia, g1, bd_224, k_0, k_1, k_101, k_102, k_105, k_108, k_110, k_111, k_114, k_116, k_117, k_118, k_2, k_20, k_4, k_40, k_41, k_45, k_5, k_7, k_97, k_99, k_9999, nz_1, nz_101, nz_102, nz_105, nz_108, nz_110, nz_111, nz_114, nz_116, nz_117, nz_118, nz_2, nz_20, nz_4, nz_40, nz_41, nz_45, nz_5, nz_7, nz_97, nz_99, nz_9999, v_and, v_call, v_cmp, v_cons, v_get, v_int, v_loc, v_nil, v_not, v_or, v_tern, v_z, w_exp0, w_exp1, w_if, w_put, w_ret, w_seq, w_set, List.getElem?_cons_zero, List.getElem?_cons_succ, List.set_cons_zero, List.set_cons_succ, ee_cmp0, ee_cmp1, ee_cmp2, ee_cmp3, ee_cmp4, ee_cmp5, ee_cmpL0, ee_cmpL1, ee_cmpL2, ee_cmpL3, ee_cmpL4, ee_cmpL5, ee_tru_eb, decide_eq_true_eq, ib_i, ie_b, ie_f, ie_t, ib_l, fin_i, fin_l, fin_v, fin_z, fin_a, fin_n, ee_b_0, ee_fld0, ee_fld1, ee_fld2, ee_fld3, bi_0, bi_1, bi_2, bi_3, bi_4, bi_5, bi_6, bi_7, bi_8, bi_9, bi_10, bl_20, bl_21, bl_22, bl_23, bl_24, bl_25, bl_26, bl_48, bl_49, un_0, un_1, un_2, un_3, if_true, if_false, ite_true, ite_false, Bool.false_eq_true, Bool.not_eq_false, decide_not, Bool.not_not, reduceCtorEq, st_i, st_l, st_r, st_n, ee_noL, ee_noL.eq_1, List.length_cons, List.length_nil, Nat.reduceAdd, Nat.reduceLT, Nat.zero_add, and_true, true_and, and_self, fin_ite, pu_0, pu_1, pu_3, sto_0, el_0, Bool.not_eq_true, decide_eq_false_iff_not, Bool.decide_eq_true, Bool.decide_eq_false, decide_true, decide_false, Bool.not_true, Bool.not_false, Bool.and_self, Bool.and_true, Bool.and_false, Bool.true_and, Bool.false_and, Bool.or_true, Bool.or_false, Bool.true_or, Bool.false_or, if_true, if_false, Bool.false_eq_true, ix_0, ix_1, ix_101, ix_102, ix_105, ix_108, ix_110, ix_111, ix_114, ix_116, ix_117, ix_118, ix_2, ix_20, ix_4, ix_40, ix_41, ix_45, ix_5, ix_7, ix_97, ix_99, ix_9999, tc_0, tc_1, tc_101, tc_102, tc_105, tc_108, tc_110, tc_111, tc_114, tc_116, tc_117, tc_118, tc_2, tc_20, tc_4, tc_40, tc_41, tc_45, tc_5, tc_7, tc_97, tc_99, tc_9999, mz_0, mz_1, mz_a, rvs, j_s, j_a, wI_at, Nat.reduceEqDiff, zero_ne_one_n, one_ne_zero_n]
  · rw [if_neg c15] at h0
    rw [h0 rfl]
    by_cases c : K = 15
    · have ct : (K = 15) = True := eq_true c
      have g : iah ks = false := by
        cases g : iah ks
        · rfl
        · exact absurd ⟨c, g⟩ c15
      rw [g] at ia
      simp only [q1, c38, no, z1, q40, c35, q45, c32, w9, i9, c9, w10, i10, c10, w11, i11, c11, w15, i15, ct, ia, bd_224, k_0, k_1, k_101, k_102, k_105, k_108, k_110, k_111, k_114, k_116, k_117, k_118, k_2, k_20, k_4, k_40, k_41, k_45, k_5, k_7, k_97, k_99, k_9999, nz_1, nz_101, nz_102, nz_105, nz_108, nz_110, nz_111, nz_114, nz_116, nz_117, nz_118, nz_2, nz_20, nz_4, nz_40, nz_41, nz_45, nz_5, nz_7, nz_97, nz_99, nz_9999, v_and, v_call, v_cmp, v_cons, v_get, v_int, v_loc, v_nil, v_not, v_or, v_tern, v_z, w_exp0, w_exp1, w_if, w_put, w_ret, w_seq, w_set, List.getElem?_cons_zero, List.getElem?_cons_succ, List.set_cons_zero, List.set_cons_succ, ee_cmp0, ee_cmp1, ee_cmp2, ee_cmp3, ee_cmp4, ee_cmp5, ee_cmpL0, ee_cmpL1, ee_cmpL2, ee_cmpL3, ee_cmpL4, ee_cmpL5, ee_tru_eb, decide_eq_true_eq, ib_i, ie_b, ie_f, ie_t, ib_l, fin_i, fin_l, fin_v, fin_z, fin_a, fin_n, ee_b_0, ee_fld0, ee_fld1, ee_fld2, ee_fld3, bi_0, bi_1, bi_2, bi_3, bi_4, bi_5, bi_6, bi_7, bi_8, bi_9, bi_10, bl_20, bl_21, bl_22, bl_23, bl_24, bl_25, bl_26, bl_48, bl_49, un_0, un_1, un_2, un_3, if_true, if_false, ite_true, ite_false, Bool.false_eq_true, Bool.not_eq_false, decide_not, Bool.not_not, reduceCtorEq, st_i, st_l, st_r, st_n, ee_noL, ee_noL.eq_1, List.length_cons, List.length_nil, Nat.reduceAdd, Nat.reduceLT, Nat.zero_add, and_true, true_and, and_self, fin_ite, pu_0, pu_1, pu_3, sto_0, el_0, Bool.not_eq_true, decide_eq_false_iff_not, Bool.decide_eq_true, Bool.decide_eq_false, decide_true, decide_false, Bool.not_true, Bool.not_false, Bool.and_self, Bool.and_true, Bool.and_false, Bool.true_and, Bool.false_and, Bool.or_true, Bool.or_false, Bool.true_or, Bool.false_or, if_true, if_false, Bool.false_eq_true, ix_0, ix_1, ix_101, ix_102, ix_105, ix_108, ix_110, ix_111, ix_114, ix_116, ix_117, ix_118, ix_2, ix_20, ix_4, ix_40, ix_41, ix_45, ix_5, ix_7, ix_97, ix_99, ix_9999, tc_0, tc_1, tc_101, tc_102, tc_105, tc_108, tc_110, tc_111, tc_114, tc_116, tc_117, tc_118, tc_2, tc_20, tc_4, tc_40, tc_41, tc_45, tc_5, tc_7, tc_97, tc_99, tc_9999, mz_0, mz_1, mz_a, rvs, j_s, j_a, wI_at, Nat.reduceEqDiff, zero_ne_one_n, one_ne_zero_n]
    · simp only [q1, c38, no, z1, q40, c35, q45, c32, w9, i9, c9, w10, i10, c10, w11, i11, c11, w15, i15, c, bd_224, k_0, k_1, k_101, k_102, k_105, k_108, k_110, k_111, k_114, k_116, k_117, k_118, k_2, k_20, k_4, k_40, k_41, k_45, k_5, k_7, k_97, k_99, k_9999, nz_1, nz_101, nz_102, nz_105, nz_108, nz_110, nz_111, nz_114, nz_116, nz_117, nz_118, nz_2, nz_20, nz_4, nz_40, nz_41, nz_45, nz_5, nz_7, nz_97, nz_99, nz_9999, v_and, v_call, v_cmp, v_cons, v_get, v_int, v_loc, v_nil, v_not, v_or, v_tern, v_z, w_exp0, w_exp1, w_if, w_put, w_ret, w_seq, w_set, List.getElem?_cons_zero, List.getElem?_cons_succ, List.set_cons_zero, List.set_cons_succ, ee_cmp0, ee_cmp1, ee_cmp2, ee_cmp3, ee_cmp4, ee_cmp5, ee_cmpL0, ee_cmpL1, ee_cmpL2, ee_cmpL3, ee_cmpL4, ee_cmpL5, ee_tru_eb, decide_eq_true_eq, ib_i, ie_b, ie_f, ie_t, ib_l, fin_i, fin_l, fin_v, fin_z, fin_a, fin_n, ee_b_0, ee_fld0, ee_fld1, ee_fld2, ee_fld3, bi_0, bi_1, bi_2, bi_3, bi_4, bi_5, bi_6, bi_7, bi_8, bi_9, bi_10, bl_20, bl_21, bl_22, bl_23, bl_24, bl_25, bl_26, bl_48, bl_49, un_0, un_1, un_2, un_3, if_true, if_false, ite_true, ite_false, Bool.false_eq_true, Bool.not_eq_false, decide_not, Bool.not_not, reduceCtorEq, st_i, st_l, st_r, st_n, ee_noL, ee_noL.eq_1, List.length_cons, List.length_nil, Nat.reduceAdd, Nat.reduceLT, Nat.zero_add, and_true, true_and, and_self, fin_ite, pu_0, pu_1, pu_3, sto_0, el_0, Bool.not_eq_true, decide_eq_false_iff_not, Bool.decide_eq_true, Bool.decide_eq_false, decide_true, decide_false, Bool.not_true, Bool.not_false, Bool.and_self, Bool.and_true, Bool.and_false, Bool.true_and, Bool.false_and, Bool.or_true, Bool.or_false, Bool.true_or, Bool.false_or, if_true, if_false, Bool.false_eq_true, ix_0, ix_1, ix_101, ix_102, ix_105, ix_108, ix_110, ix_111, ix_114, ix_116, ix_117, ix_118, ix_2, ix_20, ix_4, ix_40, ix_41, ix_45, ix_5, ix_7, ix_97, ix_99, ix_9999, tc_0, tc_1, tc_101, tc_102, tc_105, tc_108, tc_110, tc_111, tc_114, tc_116, tc_117, tc_118, tc_2, tc_20, tc_4, tc_40, tc_41, tc_45, tc_5, tc_7, tc_97, tc_99, tc_9999, mz_0, mz_1, mz_a, rvs, j_s, j_a, wI_at, Nat.reduceEqDiff, zero_ne_one_n, one_ne_zero_n]
end BGN
