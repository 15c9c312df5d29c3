/-! the reference reads a text -/
section MRD
variable {P : Nat → Nat → List Value → ee_W → Option (List Value × ee_W)} {d : Nat} {w : ee_W} {f : Nat → Int32} {n c t i W law F : Nat} {T : TX}
def fcr (r : CR) : Nat := match r with
  | .inl _ => 0
  | .inr y => y.1
theorem tkn_st (h : MTK w f n (rnq isBi f n (tpos f n i))) : w.1 236 8 = Int32.ofNat (tkn f n i).2.2.1 := by
  obtain ⟨h1, h2, -⟩ := h
  have e : (tkn f n i).2.2.1 = rnq isBi f n (tpos f n i) := (tok_e (f := f) h1).2.2.2
  rw [e]
  exact h2
theorem nmf_b {K V : Nat → Nat} {lo hi : Nat} (h : nmf K V lo hi i ≠ 0) : 1 ≤ nmf K V lo hi i ∧ nmf K V lo hi i ≤ 6 := by
  refine ⟨by omega, ?_⟩
  unfold nmf
  (repeat' split) <;> omega
theorem nmf_k {K V : Nat → Nat} {lo hi : Nat} (h : nmf K V lo hi i = 0) : K i = 38 := by
  unfold nmf at h
  by_cases y : K i = 38
  · exact y
  · rw [if_neg y] at h; cases h
theorem ROW_up {w' w'' : ee_W} {m : Nat} (h : ROW w w' t m W) (he : ∀ k, k ≠ 681 * t → w''.1 239 k = w'.1 239 k) : ROW w w'' t m W := ⟨fun k a b => (he k (by omega)).trans (h.1 k a b), fun k a => by
  have := h.2 k a
  unfold mcode at this ⊢
  rw [he _ (by omega), he _ (by omega)]
  exact this⟩
theorem ROW_f {w1 w' : ee_W} {m y : Nat} {v : Int32} (hw : w1 = ee_wI w 239 y v) (hy : 681 * t + 1 + 3 * m ≤ y ∧ y < 681 * t + 73) (hc : chk ptk w1 w') : ROW w w' t m W ∧ (∀ k, k ≠ y → w'.1 239 k = w.1 239 k) ∧ w'.1 239 y = v := by
  have e : ∀ k, w'.1 239 k = if k = y then v else w.1 239 k := fun k => by
    rw [hc.1 _ _ (by unfold ptk; omega), hw, wI_at]
    by_cases q : k = y
    · rw [if_pos ⟨rfl, q⟩, if_pos q]
    · rw [if_neg (fun z => q z.2), if_neg q]
  refine ⟨⟨fun k a b => ?_, fun k a => ?_⟩, fun k hk => ?_, ?_⟩
  · rw [e, if_neg (by omega)]
  · unfold mcode
    rw [e, if_neg (by omega), e, if_neg (by omega)]
  · rw [e, if_neg hk]
  · rw [e, if_pos rfl]
theorem fig_c {w1 w' : ee_W} {y : Nat} {v : Int32} (hw : w1 = ee_wI w 239 y v) (hy : 681 * t ≤ y ∧ y < 681 * t + 73) (hc : chk ptk w1 w') : chk (pcm t) w w' := chk_trans (by rw [hw]; exact chk_I (Or.inr (Or.inl ⟨rfl, by omega, by omega⟩)) (chk_refl _ _)) (pcm_k hc)
/-- what a clause's body leaves -/
def BOD (w w' : ee_W) (n : Nat) (f : Nat → Int32) (t : Nat) (T : TX) (r : CR) : Prop := chk (pcm t) w w' ∧ w'.1 236 19 = w.1 236 19 ∧ w'.1 239 (681 * t) = w.1 239 (681 * t) ∧ match r with
  | .inl z => ∃ W', MC w' n f z.2 t W' ∧ ∀ w'' : ee_W, (∀ k, k ≠ 681 * t → w''.1 239 k = w'.1 239 k) → w''.1 239 (681 * t) = Int32.ofNat (T.1.1 + 1) → MQW w'' t W' z.1
  | .inr y => w'.1 236 8 = Int32.ofNat (tkn f n y.2).2.2.1 ∧ 1 ≤ y.1 ∧ y.1 ≤ 6
theorem BOD_0 {j q : Nat} (h : MTK w f n (rnq isBi f n (tpos f n j))) (hq : 1 ≤ q ∧ q ≤ 6) : BOD w w n f t T (.inr (q, j)) := ⟨chk_refl _ _, rfl, rfl, tkn_st h, hq⟩
theorem m_wob (hd : 4 ≤ d) (hb : ∀ i, i < n → bI (f i) 0 255) (h : MC w n f i t W) (hQ : MQW w t W T) (hm : T.1.1 < 24) (hk : w.1 239 (681 * t + 1 + 3 * T.1.1) = Int32.ofNat 2) : ∃ w', ee_run ee_B P d 210 [.ref 236, .int (Int32.ofNat (681 * t + 1 + 3 * T.1.1))] w = some ([.int (Int32.ofNat (fcr (cbo (kkf f n) (vvf f n) F T 2 i)))], w') ∧ BOD w w' n f t T (cbo (kkf f n) (vvf f n) F T 2 i) := by
  obtain ⟨d, rfl⟩ : ∃ k, d = k + 1 := ⟨d - 1, by omega⟩
  have hd1 : 1 ≤ d := by omega
  have hd2 : 2 ≤ d := by omega
  have hd3 : 3 ≤ d := by omega
  have ht := h.2.2.1
  have e : cbo (kkf f n) (vvf f n) F T 2 i = (if nmf (kkf f n) (vvf f n) 0 7 i = 0 then (if kkf f n (i + 1) = 8 then (if nmf (kkf f n) (vvf f n) 0 7 (i + 2) = 0 then .inl (addc T 2 (Int32.ofNat (vvf f n i)) (Int32.ofNat (vvf f n (i + 2))), i + 3) else .inr (nmf (kkf f n) (vvf f n) 0 7 (i + 2), i + 2)) else .inr (1, i + 1)) else .inr (nmf (kkf f n) (vvf f n) 0 7 i, i)) := by
    unfold cbo
    rw [if_neg (by omega), if_pos rfl]
  rw [e]
  generalize hX : 681 * t + 1 + 3 * T.1.1 = X at *
  have e1 : Int32.ofNat X + 1 = Int32.ofNat (X + 1) := j_s X
  have e2 : Int32.ofNat X + 2 = Int32.ofNat (X + 2) := j_a X 2
  obtain ⟨g1, g2⟩ := m_fig (P := P) hd3 hb h (x := X + 1) (lo := 0) (hi := 7) (by omega) (by omega) (by omega)
  rw [k_0, k_7] at g1 g2
  by_cases q1 : nmf (kkf f n) (vvf f n) 0 7 i = 0
  · obtain ⟨w1, w2, r1, m1, hw1, c1⟩ := g1 q1
    rw [if_pos q1]
    obtain ⟨o1, o2, o3⟩ := ROW_f (W := W) (t := t) (m := T.1.1) hw1 (by omega) c1
    have cc1 := fig_c (t := t) hw1 (by omega) c1
    have e19 : w2.1 236 19 = w.1 236 19 := (c1.1 _ _ (by unfold ptk; omega)).trans (by rw [hw1, wI_at, if_neg (by omega)])
    have iw := m_isWord (P := P) (w := w2) hd1 m1.2.1 (k := 8) (by omega) (by omega)
    have w8 := wc_8 (P := P) (w := w2) hd1
    by_cases q2 : kkf f n (i + 1) = 8
    · rw [if_pos q2]
      have q2t : ((tok f n (rnq isBi f n (tpos f n (i + 1)))).1 = 8) = True := eq_true q2
      obtain ⟨w3, r3, m3, c3⟩ := m_nx (P := P) hd2 hb m1
      obtain ⟨g3, g4⟩ := m_fig (P := P) hd3 hb m3 (x := X + 2) (lo := 0) (hi := 7) (by omega) (by omega) (by omega)
      rw [k_0, k_7] at g3 g4
      by_cases q3 : nmf (kkf f n) (vvf f n) 0 7 (i + 2) = 0
      · obtain ⟨w4, w5, r5, m5, hw4, c5⟩ := g3 q3
        rw [if_pos q3]
        obtain ⟨p1, p2, p3⟩ := ROW_f (W := W) (t := t) (m := T.1.1) hw4 (by omega) c5
        have cc5 := fig_c (t := t) hw4 (by omega) c5
        have s3 : ∀ k, w3.1 239 k = w2.1 239 k := fun k => c3.1 _ _ (by unfold ptk; omega)
        refine ⟨w5, ?_, chk_trans cc1 (chk_trans (pcm_k c3) cc5), ?_, ?_, W, m5, fun w'' h1 h2 => ?_⟩
        · show ee_run ee_B P (d + 1) 210 [.ref 236, .int (Int32.ofNat X)] w = some ([.int 0], w5)
          rw [rn_210 mz_0]
          simp +decide only [e1, e2, r1, w8, iw, q2t, r3, r5, bd_210, k_0, k_1, k_121, k_2, k_7, k_98, nz_1, nz_121, nz_2, nz_7, nz_98, v_bin, v_call, v_cons, v_int, v_loc, v_nil, v_not, v_z, w_exp0, w_exp1, w_if, w_ret, w_seq, w_set, List.getElem?_cons_zero, List.getElem?_cons_succ, List.set_cons_zero, List.set_cons_succ, ee_cmp0, ee_cmp1, ee_cmp2, ee_cmp3, ee_cmp4, ee_cmp5, ee_cmpL0, ee_cmpL1, ee_cmpL2, ee_cmpL3, ee_cmpL4, ee_cmpL5, ee_tru_eb, decide_eq_true_eq, ib_i, ie_b, ie_f, ie_t, ib_l, fin_i, fin_l, fin_v, fin_z, fin_a, fin_n, ee_b_0, ee_fld0, ee_fld1, ee_fld2, ee_fld3, bi_0, bi_1, bi_2, bi_3, bi_4, bi_5, bi_6, bi_7, bi_8, bi_9, bi_10, bl_20, bl_21, bl_22, bl_23, bl_24, bl_25, bl_26, bl_48, bl_49, un_0, un_1, un_2, un_3, if_true, if_false, ite_true, ite_false, Bool.false_eq_true, Bool.not_eq_false, decide_not, Bool.not_not, reduceCtorEq, st_i, st_l, st_r, st_n, ee_noL, ee_noL.eq_1, List.length_cons, List.length_nil, Nat.reduceAdd, Nat.reduceLT, Nat.zero_add, and_true, true_and, and_self, fin_ite, pu_0, pu_1, pu_3, sto_0, el_0, Bool.not_eq_true, decide_eq_false_iff_not, Bool.decide_eq_true, Bool.decide_eq_false, decide_true, decide_false, Bool.not_true, Bool.not_false, Bool.and_self, Bool.and_true, Bool.and_false, Bool.true_and, Bool.false_and, Bool.or_true, Bool.or_false, Bool.true_or, Bool.false_or, if_true, if_false, Bool.false_eq_true, ix_0, ix_1, ix_121, ix_2, ix_7, ix_98, tc_0, tc_1, tc_121, tc_2, tc_7, tc_98, mz_0, mz_1, mz_a, rvs, j_s, j_a, wI_at, Nat.reduceEqDiff, zero_ne_one_n, one_ne_zero_n]
          try rfl
        · rw [c5.1 _ _ (by unfold ptk; omega), hw4, wI_at, if_neg (by omega), c3.1 _ _ (by unfold ptk; omega)]; exact e19
        · rw [p2 _ (by omega), s3, o2 _ (by omega)]
        · refine MQ_scr (q := 2) hQ hm (ROW_up (ROW_trans o1 (ROW_trans (ROW_tk c3) p1)) h1) (Nat.le_refl _) (by omega) _ _ h2 ?_ (fun _ => ?_) (fun _ => ?_)
          · rw [hX, h1 _ (by omega), p2 _ (by omega), s3, o2 _ (by omega)]; exact hk
          · rw [hX, h1 _ (by omega), p2 _ (by omega), s3]; exact o3
          · rw [hX, h1 _ (by omega)]; exact p3
      · have g4 := g4 q3
        rw [if_neg q3]
        refine ⟨w3, ?_, chk_trans cc1 (pcm_k c3), ?_, ?_, tkn_st m3.2.1, nmf_b q3⟩
        · show ee_run ee_B P (d + 1) 210 [.ref 236, .int (Int32.ofNat X)] w = some ([.int (Int32.ofNat (nmf (kkf f n) (vvf f n) 0 7 (i + 2)))], w3)
          rw [rn_210 mz_0]
          simp +decide only [e1, e2, r1, w8, iw, q2t, r3, g4, bd_210, k_0, k_1, k_121, k_2, k_7, k_98, nz_1, nz_121, nz_2, nz_7, nz_98, v_bin, v_call, v_cons, v_int, v_loc, v_nil, v_not, v_z, w_exp0, w_exp1, w_if, w_ret, w_seq, w_set, List.getElem?_cons_zero, List.getElem?_cons_succ, List.set_cons_zero, List.set_cons_succ, ee_cmp0, ee_cmp1, ee_cmp2, ee_cmp3, ee_cmp4, ee_cmp5, ee_cmpL0, ee_cmpL1, ee_cmpL2, ee_cmpL3, ee_cmpL4, ee_cmpL5, ee_tru_eb, decide_eq_true_eq, ib_i, ie_b, ie_f, ie_t, ib_l, fin_i, fin_l, fin_v, fin_z, fin_a, fin_n, ee_b_0, ee_fld0, ee_fld1, ee_fld2, ee_fld3, bi_0, bi_1, bi_2, bi_3, bi_4, bi_5, bi_6, bi_7, bi_8, bi_9, bi_10, bl_20, bl_21, bl_22, bl_23, bl_24, bl_25, bl_26, bl_48, bl_49, un_0, un_1, un_2, un_3, if_true, if_false, ite_true, ite_false, Bool.false_eq_true, Bool.not_eq_false, decide_not, Bool.not_not, reduceCtorEq, st_i, st_l, st_r, st_n, ee_noL, ee_noL.eq_1, List.length_cons, List.length_nil, Nat.reduceAdd, Nat.reduceLT, Nat.zero_add, and_true, true_and, and_self, fin_ite, pu_0, pu_1, pu_3, sto_0, el_0, Bool.not_eq_true, decide_eq_false_iff_not, Bool.decide_eq_true, Bool.decide_eq_false, decide_true, decide_false, Bool.not_true, Bool.not_false, Bool.and_self, Bool.and_true, Bool.and_false, Bool.true_and, Bool.false_and, Bool.or_true, Bool.or_false, Bool.true_or, Bool.false_or, if_true, if_false, Bool.false_eq_true, ix_0, ix_1, ix_121, ix_2, ix_7, ix_98, tc_0, tc_1, tc_121, tc_2, tc_7, tc_98, mz_0, mz_1, mz_a, rvs, j_s, j_a, wI_at, Nat.reduceEqDiff, zero_ne_one_n, one_ne_zero_n]
          try rfl
        · rw [c3.1 _ _ (by unfold ptk; omega)]; exact e19
        · rw [c3.1 _ _ (by unfold ptk; omega), o2 _ (by omega)]
    · rw [if_neg q2]
      have q2n : ¬ (tok f n (rnq isBi f n (tpos f n (i + 1)))).1 = 8 := q2
      refine ⟨w2, ?_, cc1, e19, o2 _ (by omega), tkn_st m1.2.1, by omega, by show 1 ≤ 6; omega⟩
      show ee_run ee_B P (d + 1) 210 [.ref 236, .int (Int32.ofNat X)] w = some ([.int (Int32.ofNat 1)], w2)
      rw [k_1, rn_210 mz_0]
      simp +decide only [e1, e2, r1, w8, iw, q2n, bd_210, k_0, k_1, k_121, k_2, k_7, k_98, nz_1, nz_121, nz_2, nz_7, nz_98, v_bin, v_call, v_cons, v_int, v_loc, v_nil, v_not, v_z, w_exp0, w_exp1, w_if, w_ret, w_seq, w_set, List.getElem?_cons_zero, List.getElem?_cons_succ, List.set_cons_zero, List.set_cons_succ, ee_cmp0, ee_cmp1, ee_cmp2, ee_cmp3, ee_cmp4, ee_cmp5, ee_cmpL0, ee_cmpL1, ee_cmpL2, ee_cmpL3, ee_cmpL4, ee_cmpL5, ee_tru_eb, decide_eq_true_eq, ib_i, ie_b, ie_f, ie_t, ib_l, fin_i, fin_l, fin_v, fin_z, fin_a, fin_n, ee_b_0, ee_fld0, ee_fld1, ee_fld2, ee_fld3, bi_0, bi_1, bi_2, bi_3, bi_4, bi_5, bi_6, bi_7, bi_8, bi_9, bi_10, bl_20, bl_21, bl_22, bl_23, bl_24, bl_25, bl_26, bl_48, bl_49, un_0, un_1, un_2, un_3, if_true, if_false, ite_true, ite_false, Bool.false_eq_true, Bool.not_eq_false, decide_not, Bool.not_not, reduceCtorEq, st_i, st_l, st_r, st_n, ee_noL, ee_noL.eq_1, List.length_cons, List.length_nil, Nat.reduceAdd, Nat.reduceLT, Nat.zero_add, and_true, true_and, and_self, fin_ite, pu_0, pu_1, pu_3, sto_0, el_0, Bool.not_eq_true, decide_eq_false_iff_not, Bool.decide_eq_true, Bool.decide_eq_false, decide_true, decide_false, Bool.not_true, Bool.not_false, Bool.and_self, Bool.and_true, Bool.and_false, Bool.true_and, Bool.false_and, Bool.or_true, Bool.or_false, Bool.true_or, Bool.false_or, if_true, if_false, Bool.false_eq_true, ix_0, ix_1, ix_121, ix_2, ix_7, ix_98, tc_0, tc_1, tc_121, tc_2, tc_7, tc_98, mz_0, mz_1, mz_a, rvs, j_s, j_a, wI_at, Nat.reduceEqDiff, zero_ne_one_n, one_ne_zero_n]
      try rfl
  · have g2 := g2 q1
    rw [if_neg q1]
    have nz : ¬ Int32.ofNat (nmf (kkf f n) (vvf f n) 0 7 i) = 0 := fun z => by
      have b := nmf_b q1
      have := (kq (m := 0) (by omega) (by omega)).mp z
      omega
    refine ⟨w, ?_, BOD_0 h.2.1 (nmf_b q1)⟩
    show ee_run ee_B P (d + 1) 210 [.ref 236, .int (Int32.ofNat X)] w = some ([.int (Int32.ofNat (nmf (kkf f n) (vvf f n) 0 7 i))], w)
    rw [rn_210 mz_0]
    simp only [e1, e2, g2, nz, bd_210, k_0, k_1, k_121, k_2, k_7, k_98, nz_1, nz_121, nz_2, nz_7, nz_98, v_bin, v_call, v_cons, v_int, v_loc, v_nil, v_not, v_z, w_exp0, w_exp1, w_if, w_ret, w_seq, w_set, List.getElem?_cons_zero, List.getElem?_cons_succ, List.set_cons_zero, List.set_cons_succ, ee_cmp0, ee_cmp1, ee_cmp2, ee_cmp3, ee_cmp4, ee_cmp5, ee_cmpL0, ee_cmpL1, ee_cmpL2, ee_cmpL3, ee_cmpL4, ee_cmpL5, ee_tru_eb, decide_eq_true_eq, ib_i, ie_b, ie_f, ie_t, ib_l, fin_i, fin_l, fin_v, fin_z, fin_a, fin_n, ee_b_0, ee_fld0, ee_fld1, ee_fld2, ee_fld3, bi_0, bi_1, bi_2, bi_3, bi_4, bi_5, bi_6, bi_7, bi_8, bi_9, bi_10, bl_20, bl_21, bl_22, bl_23, bl_24, bl_25, bl_26, bl_48, bl_49, un_0, un_1, un_2, un_3, if_true, if_false, ite_true, ite_false, Bool.false_eq_true, Bool.not_eq_false, decide_not, Bool.not_not, reduceCtorEq, st_i, st_l, st_r, st_n, ee_noL, ee_noL.eq_1, List.length_cons, List.length_nil, Nat.reduceAdd, Nat.reduceLT, Nat.zero_add, and_true, true_and, and_self, fin_ite, pu_0, pu_1, pu_3, sto_0, el_0, Bool.not_eq_true, decide_eq_false_iff_not, Bool.decide_eq_true, Bool.decide_eq_false, decide_true, decide_false, Bool.not_true, Bool.not_false, Bool.and_self, Bool.and_true, Bool.and_false, Bool.true_and, Bool.false_and, Bool.or_true, Bool.or_false, Bool.true_or, Bool.false_or, if_true, if_false, Bool.false_eq_true, ix_0, ix_1, ix_121, ix_2, ix_7, ix_98, tc_0, tc_1, tc_121, tc_2, tc_7, tc_98, mz_0, mz_1, mz_a, rvs, j_s, j_a, wI_at, Nat.reduceEqDiff, zero_ne_one_n, one_ne_zero_n]
    try rfl
theorem m_scr (hd : 5 ≤ d) (hb : ∀ i, i < n → bI (f i) 0 255) (h : MC w n f i t W) (hQ : MQW w t W T) (hm : T.1.1 < 24) {k : Nat} (hk27 : 2 ≤ k ∧ k ≤ 7) (hk : w.1 239 (681 * t + 1 + 3 * T.1.1) = Int32.ofNat k) : ∃ w', ee_run ee_B P d 209 [.ref 236, .int (Int32.ofNat k), .int (Int32.ofNat (681 * t + 1 + 3 * T.1.1))] w = some ([.int (Int32.ofNat (fcr (cbo (kkf f n) (vvf f n) F T k i)))], w') ∧ BOD w w' n f t T (cbo (kkf f n) (vvf f n) F T k i) := by
  obtain ⟨d, rfl⟩ : ∃ k, d = k + 1 := ⟨d - 1, by omega⟩
  have hd1 : 1 ≤ d := by omega
  have hd2 : 2 ≤ d := by omega
  have hd3 : 3 ≤ d := by omega
  have ht := h.2.2.1
  have : k = 2 ∨ k = 6 ∨ k = 3 ∨ k = 4 ∨ k = 5 ∨ k = 7 := by omega
  rcases this with rfl | rfl | rfl | rfl | rfl | rfl
  · obtain ⟨w', g1, g2⟩ := m_wob (P := P) (d := d) (F := F) (by omega) hb h hQ hm hk
    refine ⟨w', ?_, g2⟩
    rw [k_2, rn_209 mz_0]
    simp +decide only [memc, memn, g1, bd_209, k_0, k_1, k_40, k_60, k_63, k_7, nz_1, nz_40, nz_60, nz_63, nz_7, v_bin, v_call, v_cons, v_int, v_loc, v_nil, w_case, w_dflt, w_ret, w_switch, List.getElem?_cons_zero, List.getElem?_cons_succ, List.set_cons_zero, List.set_cons_succ, ee_cmp0, ee_cmp1, ee_cmp2, ee_cmp3, ee_cmp4, ee_cmp5, ee_cmpL0, ee_cmpL1, ee_cmpL2, ee_cmpL3, ee_cmpL4, ee_cmpL5, ee_tru_eb, decide_eq_true_eq, ib_i, ie_b, ie_f, ie_t, ib_l, fin_i, fin_l, fin_v, fin_z, fin_a, fin_n, ee_b_0, ee_fld0, ee_fld1, ee_fld2, ee_fld3, bi_0, bi_1, bi_2, bi_3, bi_4, bi_5, bi_6, bi_7, bi_8, bi_9, bi_10, bl_20, bl_21, bl_22, bl_23, bl_24, bl_25, bl_26, bl_48, bl_49, un_0, un_1, un_2, un_3, if_true, if_false, ite_true, ite_false, Bool.false_eq_true, Bool.not_eq_false, decide_not, Bool.not_not, reduceCtorEq, st_i, st_l, st_r, st_n, ee_noL, ee_noL.eq_1, List.length_cons, List.length_nil, Nat.reduceAdd, Nat.reduceLT, Nat.zero_add, and_true, true_and, and_self, fin_ite, pu_0, pu_1, pu_3, sto_0, el_0, Bool.not_eq_true, decide_eq_false_iff_not, Bool.decide_eq_true, Bool.decide_eq_false, decide_true, decide_false, Bool.not_true, Bool.not_false, Bool.and_self, Bool.and_true, Bool.and_false, Bool.true_and, Bool.false_and, Bool.or_true, Bool.or_false, Bool.true_or, Bool.false_or, if_true, if_false, Bool.false_eq_true, ix_0, ix_1, ix_40, ix_60, ix_63, ix_7, tc_0, tc_1, tc_40, tc_60, tc_63, tc_7, mz_0, mz_1, mz_a, rvs, j_s, j_a, wI_at, Nat.reduceEqDiff, zero_ne_one_n, one_ne_zero_n]
    try rfl
  · have e : cbo (kkf f n) (vvf f n) F T 6 i = .inl (addc T 6 0 0, i) := by
      unfold cbo
      rw [if_neg (by omega), if_neg (by omega), if_pos rfl]
    rw [e]
    refine ⟨w, ?_, chk_refl _ _, rfl, rfl, W, h, fun w'' h1 h2 => ?_⟩
    · show ee_run ee_B P (d + 1) 209 [.ref 236, .int (Int32.ofNat 6), .int (Int32.ofNat (681 * t + 1 + 3 * T.1.1))] w = some ([.int 0], w)
      rw [k_6, rn_209 mz_0]
      simp +decide only [memc, memn, bd_209, k_0, k_1, k_40, k_60, k_63, k_7, nz_1, nz_40, nz_60, nz_63, nz_7, v_bin, v_call, v_cons, v_int, v_loc, v_nil, w_case, w_dflt, w_ret, w_switch, List.getElem?_cons_zero, List.getElem?_cons_succ, List.set_cons_zero, List.set_cons_succ, ee_cmp0, ee_cmp1, ee_cmp2, ee_cmp3, ee_cmp4, ee_cmp5, ee_cmpL0, ee_cmpL1, ee_cmpL2, ee_cmpL3, ee_cmpL4, ee_cmpL5, ee_tru_eb, decide_eq_true_eq, ib_i, ie_b, ie_f, ie_t, ib_l, fin_i, fin_l, fin_v, fin_z, fin_a, fin_n, ee_b_0, ee_fld0, ee_fld1, ee_fld2, ee_fld3, bi_0, bi_1, bi_2, bi_3, bi_4, bi_5, bi_6, bi_7, bi_8, bi_9, bi_10, bl_20, bl_21, bl_22, bl_23, bl_24, bl_25, bl_26, bl_48, bl_49, un_0, un_1, un_2, un_3, if_true, if_false, ite_true, ite_false, Bool.false_eq_true, Bool.not_eq_false, decide_not, Bool.not_not, reduceCtorEq, st_i, st_l, st_r, st_n, ee_noL, ee_noL.eq_1, List.length_cons, List.length_nil, Nat.reduceAdd, Nat.reduceLT, Nat.zero_add, and_true, true_and, and_self, fin_ite, pu_0, pu_1, pu_3, sto_0, el_0, Bool.not_eq_true, decide_eq_false_iff_not, Bool.decide_eq_true, Bool.decide_eq_false, decide_true, decide_false, Bool.not_true, Bool.not_false, Bool.and_self, Bool.and_true, Bool.and_false, Bool.true_and, Bool.false_and, Bool.or_true, Bool.or_false, Bool.true_or, Bool.false_or, if_true, if_false, Bool.false_eq_true, ix_0, ix_1, ix_40, ix_60, ix_63, ix_7, tc_0, tc_1, tc_40, tc_60, tc_63, tc_7, mz_0, mz_1, mz_a, rvs, j_s, j_a, wI_at, Nat.reduceEqDiff, zero_ne_one_n, one_ne_zero_n]
      try rfl
    · refine MQ_scr (q := 6) hQ hm (ROW_up (ROW_refl _ _ _ _) h1) (Nat.le_refl _) (by omega) _ _ h2 ?_ (fun z => by omega) (fun z => by omega)
      rw [h1 _ (by omega)]; exact hk
  · have e : cbo (kkf f n) (vvf f n) F T 3 i = (if nmf (kkf f n) (vvf f n) 0 7 i = 0 then .inl (addc T 3 (Int32.ofNat (vvf f n i)) 0, i + 1) else .inr (nmf (kkf f n) (vvf f n) 0 7 i, i)) := by
      unfold cbo
      rw [if_neg (by omega), if_neg (by omega), if_neg (by omega)]
      rfl
    rw [e]
    generalize hX : 681 * t + 1 + 3 * T.1.1 = X at *
    have e1 : Int32.ofNat X + 1 = Int32.ofNat (X + 1) := j_s X
    obtain ⟨g1, g2⟩ := m_fig (P := P) hd3 hb h (x := X + 1) (lo := 0) (hi := 7) (by omega) (by omega) (by omega)
    rw [k_0, k_7] at g1 g2
    by_cases q1 : nmf (kkf f n) (vvf f n) 0 7 i = 0
    · obtain ⟨w1, w2, r1, m1, hw1, c1⟩ := g1 q1
      rw [if_pos q1]
      obtain ⟨o1, o2, o3⟩ := ROW_f (W := W) (t := t) (m := T.1.1) hw1 (by omega) c1
      refine ⟨w2, ?_, fig_c (t := t) hw1 (by omega) c1, (c1.1 _ _ (by unfold ptk; omega)).trans (by rw [hw1, wI_at, if_neg (by omega)]), o2 _ (by omega), W, m1, fun w'' h1 h2 => ?_⟩
      · show ee_run ee_B P (d + 1) 209 [.ref 236, .int (Int32.ofNat 3), .int (Int32.ofNat X)] w = some ([.int 0], w2)
        rw [k_3, rn_209 mz_0]
        simp +decide only [memc, memn, e1, r1, bd_209, k_0, k_1, k_40, k_60, k_63, k_7, nz_1, nz_40, nz_60, nz_63, nz_7, v_bin, v_call, v_cons, v_int, v_loc, v_nil, w_case, w_dflt, w_ret, w_switch, List.getElem?_cons_zero, List.getElem?_cons_succ, List.set_cons_zero, List.set_cons_succ, ee_cmp0, ee_cmp1, ee_cmp2, ee_cmp3, ee_cmp4, ee_cmp5, ee_cmpL0, ee_cmpL1, ee_cmpL2, ee_cmpL3, ee_cmpL4, ee_cmpL5, ee_tru_eb, decide_eq_true_eq, ib_i, ie_b, ie_f, ie_t, ib_l, fin_i, fin_l, fin_v, fin_z, fin_a, fin_n, ee_b_0, ee_fld0, ee_fld1, ee_fld2, ee_fld3, bi_0, bi_1, bi_2, bi_3, bi_4, bi_5, bi_6, bi_7, bi_8, bi_9, bi_10, bl_20, bl_21, bl_22, bl_23, bl_24, bl_25, bl_26, bl_48, bl_49, un_0, un_1, un_2, un_3, if_true, if_false, ite_true, ite_false, Bool.false_eq_true, Bool.not_eq_false, decide_not, Bool.not_not, reduceCtorEq, st_i, st_l, st_r, st_n, ee_noL, ee_noL.eq_1, List.length_cons, List.length_nil, Nat.reduceAdd, Nat.reduceLT, Nat.zero_add, and_true, true_and, and_self, fin_ite, pu_0, pu_1, pu_3, sto_0, el_0, Bool.not_eq_true, decide_eq_false_iff_not, Bool.decide_eq_true, Bool.decide_eq_false, decide_true, decide_false, Bool.not_true, Bool.not_false, Bool.and_self, Bool.and_true, Bool.and_false, Bool.true_and, Bool.false_and, Bool.or_true, Bool.or_false, Bool.true_or, Bool.false_or, if_true, if_false, Bool.false_eq_true, ix_0, ix_1, ix_40, ix_60, ix_63, ix_7, tc_0, tc_1, tc_40, tc_60, tc_63, tc_7, mz_0, mz_1, mz_a, rvs, j_s, j_a, wI_at, Nat.reduceEqDiff, zero_ne_one_n, one_ne_zero_n]
        try rfl
      · refine MQ_scr (q := 3) hQ hm (ROW_up o1 h1) (Nat.le_refl _) (by omega) _ _ h2 ?_ (fun _ => ?_) (fun z => by omega)
        · rw [hX, h1 _ (by omega), o2 _ (by omega)]; exact hk
        · rw [hX, h1 _ (by omega)]; exact o3
    · have g2 := g2 q1
      rw [if_neg q1]
      refine ⟨w, ?_, BOD_0 h.2.1 (nmf_b q1)⟩
      show ee_run ee_B P (d + 1) 209 [.ref 236, .int (Int32.ofNat 3), .int (Int32.ofNat X)] w = some ([.int (Int32.ofNat (nmf (kkf f n) (vvf f n) 0 7 i))], w)
      rw [k_3, rn_209 mz_0]
      simp +decide only [memc, memn, e1, g2, bd_209, k_0, k_1, k_40, k_60, k_63, k_7, nz_1, nz_40, nz_60, nz_63, nz_7, v_bin, v_call, v_cons, v_int, v_loc, v_nil, w_case, w_dflt, w_ret, w_switch, List.getElem?_cons_zero, List.getElem?_cons_succ, List.set_cons_zero, List.set_cons_succ, ee_cmp0, ee_cmp1, ee_cmp2, ee_cmp3, ee_cmp4, ee_cmp5, ee_cmpL0, ee_cmpL1, ee_cmpL2, ee_cmpL3, ee_cmpL4, ee_cmpL5, ee_tru_eb, decide_eq_true_eq, ib_i, ie_b, ie_f, ie_t, ib_l, fin_i, fin_l, fin_v, fin_z, fin_a, fin_n, ee_b_0, ee_fld0, ee_fld1, ee_fld2, ee_fld3, bi_0, bi_1, bi_2, bi_3, bi_4, bi_5, bi_6, bi_7, bi_8, bi_9, bi_10, bl_20, bl_21, bl_22, bl_23, bl_24, bl_25, bl_26, bl_48, bl_49, un_0, un_1, un_2, un_3, if_true, if_false, ite_true, ite_false, Bool.false_eq_true, Bool.not_eq_false, decide_not, Bool.not_not, reduceCtorEq, st_i, st_l, st_r, st_n, ee_noL, ee_noL.eq_1, List.length_cons, List.length_nil, Nat.reduceAdd, Nat.reduceLT, Nat.zero_add, and_true, true_and, and_self, fin_ite, pu_0, pu_1, pu_3, sto_0, el_0, Bool.not_eq_true, decide_eq_false_iff_not, Bool.decide_eq_true, Bool.decide_eq_false, decide_true, decide_false, Bool.not_true, Bool.not_false, Bool.and_self, Bool.and_true, Bool.and_false, Bool.true_and, Bool.false_and, Bool.or_true, Bool.or_false, Bool.true_or, Bool.false_or, if_true, if_false, Bool.false_eq_true, ix_0, ix_1, ix_40, ix_60, ix_63, ix_7, tc_0, tc_1, tc_40, tc_60, tc_63, tc_7, mz_0, mz_1, mz_a, rvs, j_s, j_a, wI_at, Nat.reduceEqDiff, zero_ne_one_n, one_ne_zero_n]
      try rfl
  · have e : cbo (kkf f n) (vvf f n) F T 4 i = (if nmf (kkf f n) (vvf f n) 0 63 i = 0 then .inl (addc T 4 (Int32.ofNat (vvf f n i)) 0, i + 1) else .inr (nmf (kkf f n) (vvf f n) 0 63 i, i)) := by
      unfold cbo
      rw [if_neg (by omega), if_neg (by omega), if_neg (by omega)]
      rfl
    rw [e]
    generalize hX : 681 * t + 1 + 3 * T.1.1 = X at *
    have e1 : Int32.ofNat X + 1 = Int32.ofNat (X + 1) := j_s X
    obtain ⟨g1, g2⟩ := m_fig (P := P) hd3 hb h (x := X + 1) (lo := 0) (hi := 63) (by omega) (by omega) (by omega)
    rw [k_0, k_63] at g1 g2
    by_cases q1 : nmf (kkf f n) (vvf f n) 0 63 i = 0
    · obtain ⟨w1, w2, r1, m1, hw1, c1⟩ := g1 q1
      rw [if_pos q1]
      obtain ⟨o1, o2, o3⟩ := ROW_f (W := W) (t := t) (m := T.1.1) hw1 (by omega) c1
      refine ⟨w2, ?_, fig_c (t := t) hw1 (by omega) c1, (c1.1 _ _ (by unfold ptk; omega)).trans (by rw [hw1, wI_at, if_neg (by omega)]), o2 _ (by omega), W, m1, fun w'' h1 h2 => ?_⟩
      · show ee_run ee_B P (d + 1) 209 [.ref 236, .int (Int32.ofNat 4), .int (Int32.ofNat X)] w = some ([.int 0], w2)
        rw [k_4, rn_209 mz_0]
        simp +decide only [memc, memn, e1, r1, bd_209, k_0, k_1, k_40, k_60, k_63, k_7, nz_1, nz_40, nz_60, nz_63, nz_7, v_bin, v_call, v_cons, v_int, v_loc, v_nil, w_case, w_dflt, w_ret, w_switch, List.getElem?_cons_zero, List.getElem?_cons_succ, List.set_cons_zero, List.set_cons_succ, ee_cmp0, ee_cmp1, ee_cmp2, ee_cmp3, ee_cmp4, ee_cmp5, ee_cmpL0, ee_cmpL1, ee_cmpL2, ee_cmpL3, ee_cmpL4, ee_cmpL5, ee_tru_eb, decide_eq_true_eq, ib_i, ie_b, ie_f, ie_t, ib_l, fin_i, fin_l, fin_v, fin_z, fin_a, fin_n, ee_b_0, ee_fld0, ee_fld1, ee_fld2, ee_fld3, bi_0, bi_1, bi_2, bi_3, bi_4, bi_5, bi_6, bi_7, bi_8, bi_9, bi_10, bl_20, bl_21, bl_22, bl_23, bl_24, bl_25, bl_26, bl_48, bl_49, un_0, un_1, un_2, un_3, if_true, if_false, ite_true, ite_false, Bool.false_eq_true, Bool.not_eq_false, decide_not, Bool.not_not, reduceCtorEq, st_i, st_l, st_r, st_n, ee_noL, ee_noL.eq_1, List.length_cons, List.length_nil, Nat.reduceAdd, Nat.reduceLT, Nat.zero_add, and_true, true_and, and_self, fin_ite, pu_0, pu_1, pu_3, sto_0, el_0, Bool.not_eq_true, decide_eq_false_iff_not, Bool.decide_eq_true, Bool.decide_eq_false, decide_true, decide_false, Bool.not_true, Bool.not_false, Bool.and_self, Bool.and_true, Bool.and_false, Bool.true_and, Bool.false_and, Bool.or_true, Bool.or_false, Bool.true_or, Bool.false_or, if_true, if_false, Bool.false_eq_true, ix_0, ix_1, ix_40, ix_60, ix_63, ix_7, tc_0, tc_1, tc_40, tc_60, tc_63, tc_7, mz_0, mz_1, mz_a, rvs, j_s, j_a, wI_at, Nat.reduceEqDiff, zero_ne_one_n, one_ne_zero_n]
        try rfl
      · refine MQ_scr (q := 4) hQ hm (ROW_up o1 h1) (Nat.le_refl _) (by omega) _ _ h2 ?_ (fun _ => ?_) (fun z => by omega)
        · rw [hX, h1 _ (by omega), o2 _ (by omega)]; exact hk
        · rw [hX, h1 _ (by omega)]; exact o3
    · have g2 := g2 q1
      rw [if_neg q1]
      refine ⟨w, ?_, BOD_0 h.2.1 (nmf_b q1)⟩
      show ee_run ee_B P (d + 1) 209 [.ref 236, .int (Int32.ofNat 4), .int (Int32.ofNat X)] w = some ([.int (Int32.ofNat (nmf (kkf f n) (vvf f n) 0 63 i))], w)
      rw [k_4, rn_209 mz_0]
      simp +decide only [memc, memn, e1, g2, bd_209, k_0, k_1, k_40, k_60, k_63, k_7, nz_1, nz_40, nz_60, nz_63, nz_7, v_bin, v_call, v_cons, v_int, v_loc, v_nil, w_case, w_dflt, w_ret, w_switch, List.getElem?_cons_zero, List.getElem?_cons_succ, List.set_cons_zero, List.set_cons_succ, ee_cmp0, ee_cmp1, ee_cmp2, ee_cmp3, ee_cmp4, ee_cmp5, ee_cmpL0, ee_cmpL1, ee_cmpL2, ee_cmpL3, ee_cmpL4, ee_cmpL5, ee_tru_eb, decide_eq_true_eq, ib_i, ie_b, ie_f, ie_t, ib_l, fin_i, fin_l, fin_v, fin_z, fin_a, fin_n, ee_b_0, ee_fld0, ee_fld1, ee_fld2, ee_fld3, bi_0, bi_1, bi_2, bi_3, bi_4, bi_5, bi_6, bi_7, bi_8, bi_9, bi_10, bl_20, bl_21, bl_22, bl_23, bl_24, bl_25, bl_26, bl_48, bl_49, un_0, un_1, un_2, un_3, if_true, if_false, ite_true, ite_false, Bool.false_eq_true, Bool.not_eq_false, decide_not, Bool.not_not, reduceCtorEq, st_i, st_l, st_r, st_n, ee_noL, ee_noL.eq_1, List.length_cons, List.length_nil, Nat.reduceAdd, Nat.reduceLT, Nat.zero_add, and_true, true_and, and_self, fin_ite, pu_0, pu_1, pu_3, sto_0, el_0, Bool.not_eq_true, decide_eq_false_iff_not, Bool.decide_eq_true, Bool.decide_eq_false, decide_true, decide_false, Bool.not_true, Bool.not_false, Bool.and_self, Bool.and_true, Bool.and_false, Bool.true_and, Bool.false_and, Bool.or_true, Bool.or_false, Bool.true_or, Bool.false_or, if_true, if_false, Bool.false_eq_true, ix_0, ix_1, ix_40, ix_60, ix_63, ix_7, tc_0, tc_1, tc_40, tc_60, tc_63, tc_7, mz_0, mz_1, mz_a, rvs, j_s, j_a, wI_at, Nat.reduceEqDiff, zero_ne_one_n, one_ne_zero_n]
      try rfl
  · have e : cbo (kkf f n) (vvf f n) F T 5 i = (if nmf (kkf f n) (vvf f n) 1 40 i = 0 then .inl (addc T 5 (Int32.ofNat (vvf f n i)) 0, i + 1) else .inr (nmf (kkf f n) (vvf f n) 1 40 i, i)) := by
      unfold cbo
      rw [if_neg (by omega), if_neg (by omega), if_neg (by omega)]
      rfl
    rw [e]
    generalize hX : 681 * t + 1 + 3 * T.1.1 = X at *
    have e1 : Int32.ofNat X + 1 = Int32.ofNat (X + 1) := j_s X
    obtain ⟨g1, g2⟩ := m_fig (P := P) hd3 hb h (x := X + 1) (lo := 1) (hi := 40) (by omega) (by omega) (by omega)
    rw [k_1, k_40] at g1 g2
    by_cases q1 : nmf (kkf f n) (vvf f n) 1 40 i = 0
    · obtain ⟨w1, w2, r1, m1, hw1, c1⟩ := g1 q1
      rw [if_pos q1]
      obtain ⟨o1, o2, o3⟩ := ROW_f (W := W) (t := t) (m := T.1.1) hw1 (by omega) c1
      refine ⟨w2, ?_, fig_c (t := t) hw1 (by omega) c1, (c1.1 _ _ (by unfold ptk; omega)).trans (by rw [hw1, wI_at, if_neg (by omega)]), o2 _ (by omega), W, m1, fun w'' h1 h2 => ?_⟩
      · show ee_run ee_B P (d + 1) 209 [.ref 236, .int (Int32.ofNat 5), .int (Int32.ofNat X)] w = some ([.int 0], w2)
        rw [k_5, rn_209 mz_0]
        simp +decide only [memc, memn, e1, r1, bd_209, k_0, k_1, k_40, k_60, k_63, k_7, nz_1, nz_40, nz_60, nz_63, nz_7, v_bin, v_call, v_cons, v_int, v_loc, v_nil, w_case, w_dflt, w_ret, w_switch, List.getElem?_cons_zero, List.getElem?_cons_succ, List.set_cons_zero, List.set_cons_succ, ee_cmp0, ee_cmp1, ee_cmp2, ee_cmp3, ee_cmp4, ee_cmp5, ee_cmpL0, ee_cmpL1, ee_cmpL2, ee_cmpL3, ee_cmpL4, ee_cmpL5, ee_tru_eb, decide_eq_true_eq, ib_i, ie_b, ie_f, ie_t, ib_l, fin_i, fin_l, fin_v, fin_z, fin_a, fin_n, ee_b_0, ee_fld0, ee_fld1, ee_fld2, ee_fld3, bi_0, bi_1, bi_2, bi_3, bi_4, bi_5, bi_6, bi_7, bi_8, bi_9, bi_10, bl_20, bl_21, bl_22, bl_23, bl_24, bl_25, bl_26, bl_48, bl_49, un_0, un_1, un_2, un_3, if_true, if_false, ite_true, ite_false, Bool.false_eq_true, Bool.not_eq_false, decide_not, Bool.not_not, reduceCtorEq, st_i, st_l, st_r, st_n, ee_noL, ee_noL.eq_1, List.length_cons, List.length_nil, Nat.reduceAdd, Nat.reduceLT, Nat.zero_add, and_true, true_and, and_self, fin_ite, pu_0, pu_1, pu_3, sto_0, el_0, Bool.not_eq_true, decide_eq_false_iff_not, Bool.decide_eq_true, Bool.decide_eq_false, decide_true, decide_false, Bool.not_true, Bool.not_false, Bool.and_self, Bool.and_true, Bool.and_false, Bool.true_and, Bool.false_and, Bool.or_true, Bool.or_false, Bool.true_or, Bool.false_or, if_true, if_false, Bool.false_eq_true, ix_0, ix_1, ix_40, ix_60, ix_63, ix_7, tc_0, tc_1, tc_40, tc_60, tc_63, tc_7, mz_0, mz_1, mz_a, rvs, j_s, j_a, wI_at, Nat.reduceEqDiff, zero_ne_one_n, one_ne_zero_n]
        try rfl
      · refine MQ_scr (q := 5) hQ hm (ROW_up o1 h1) (Nat.le_refl _) (by omega) _ _ h2 ?_ (fun _ => ?_) (fun z => by omega)
        · rw [hX, h1 _ (by omega), o2 _ (by omega)]; exact hk
        · rw [hX, h1 _ (by omega)]; exact o3
    · have g2 := g2 q1
      rw [if_neg q1]
      refine ⟨w, ?_, BOD_0 h.2.1 (nmf_b q1)⟩
      show ee_run ee_B P (d + 1) 209 [.ref 236, .int (Int32.ofNat 5), .int (Int32.ofNat X)] w = some ([.int (Int32.ofNat (nmf (kkf f n) (vvf f n) 1 40 i))], w)
      rw [k_5, rn_209 mz_0]
      simp +decide only [memc, memn, e1, g2, bd_209, k_0, k_1, k_40, k_60, k_63, k_7, nz_1, nz_40, nz_60, nz_63, nz_7, v_bin, v_call, v_cons, v_int, v_loc, v_nil, w_case, w_dflt, w_ret, w_switch, List.getElem?_cons_zero, List.getElem?_cons_succ, List.set_cons_zero, List.set_cons_succ, ee_cmp0, ee_cmp1, ee_cmp2, ee_cmp3, ee_cmp4, ee_cmp5, ee_cmpL0, ee_cmpL1, ee_cmpL2, ee_cmpL3, ee_cmpL4, ee_cmpL5, ee_tru_eb, decide_eq_true_eq, ib_i, ie_b, ie_f, ie_t, ib_l, fin_i, fin_l, fin_v, fin_z, fin_a, fin_n, ee_b_0, ee_fld0, ee_fld1, ee_fld2, ee_fld3, bi_0, bi_1, bi_2, bi_3, bi_4, bi_5, bi_6, bi_7, bi_8, bi_9, bi_10, bl_20, bl_21, bl_22, bl_23, bl_24, bl_25, bl_26, bl_48, bl_49, un_0, un_1, un_2, un_3, if_true, if_false, ite_true, ite_false, Bool.false_eq_true, Bool.not_eq_false, decide_not, Bool.not_not, reduceCtorEq, st_i, st_l, st_r, st_n, ee_noL, ee_noL.eq_1, List.length_cons, List.length_nil, Nat.reduceAdd, Nat.reduceLT, Nat.zero_add, and_true, true_and, and_self, fin_ite, pu_0, pu_1, pu_3, sto_0, el_0, Bool.not_eq_true, decide_eq_false_iff_not, Bool.decide_eq_true, Bool.decide_eq_false, decide_true, decide_false, Bool.not_true, Bool.not_false, Bool.and_self, Bool.and_true, Bool.and_false, Bool.true_and, Bool.false_and, Bool.or_true, Bool.or_false, Bool.true_or, Bool.false_or, if_true, if_false, Bool.false_eq_true, ix_0, ix_1, ix_40, ix_60, ix_63, ix_7, tc_0, tc_1, tc_40, tc_60, tc_63, tc_7, mz_0, mz_1, mz_a, rvs, j_s, j_a, wI_at, Nat.reduceEqDiff, zero_ne_one_n, one_ne_zero_n]
      try rfl
  · have e : cbo (kkf f n) (vvf f n) F T 7 i = (if nmf (kkf f n) (vvf f n) 1 60 i = 0 then .inl (addc T 7 (Int32.ofNat (vvf f n i)) 0, i + 1) else .inr (nmf (kkf f n) (vvf f n) 1 60 i, i)) := by
      unfold cbo
      rw [if_neg (by omega), if_neg (by omega), if_neg (by omega)]
      rfl
    rw [e]
    generalize hX : 681 * t + 1 + 3 * T.1.1 = X at *
    have e1 : Int32.ofNat X + 1 = Int32.ofNat (X + 1) := j_s X
    obtain ⟨g1, g2⟩ := m_fig (P := P) hd3 hb h (x := X + 1) (lo := 1) (hi := 60) (by omega) (by omega) (by omega)
    rw [k_1, k_60] at g1 g2
    by_cases q1 : nmf (kkf f n) (vvf f n) 1 60 i = 0
    · obtain ⟨w1, w2, r1, m1, hw1, c1⟩ := g1 q1
      rw [if_pos q1]
      obtain ⟨o1, o2, o3⟩ := ROW_f (W := W) (t := t) (m := T.1.1) hw1 (by omega) c1
      refine ⟨w2, ?_, fig_c (t := t) hw1 (by omega) c1, (c1.1 _ _ (by unfold ptk; omega)).trans (by rw [hw1, wI_at, if_neg (by omega)]), o2 _ (by omega), W, m1, fun w'' h1 h2 => ?_⟩
      · show ee_run ee_B P (d + 1) 209 [.ref 236, .int (Int32.ofNat 7), .int (Int32.ofNat X)] w = some ([.int 0], w2)
        rw [k_7, rn_209 mz_0]
        simp +decide only [memc, memn, e1, r1, bd_209, k_0, k_1, k_40, k_60, k_63, k_7, nz_1, nz_40, nz_60, nz_63, nz_7, v_bin, v_call, v_cons, v_int, v_loc, v_nil, w_case, w_dflt, w_ret, w_switch, List.getElem?_cons_zero, List.getElem?_cons_succ, List.set_cons_zero, List.set_cons_succ, ee_cmp0, ee_cmp1, ee_cmp2, ee_cmp3, ee_cmp4, ee_cmp5, ee_cmpL0, ee_cmpL1, ee_cmpL2, ee_cmpL3, ee_cmpL4, ee_cmpL5, ee_tru_eb, decide_eq_true_eq, ib_i, ie_b, ie_f, ie_t, ib_l, fin_i, fin_l, fin_v, fin_z, fin_a, fin_n, ee_b_0, ee_fld0, ee_fld1, ee_fld2, ee_fld3, bi_0, bi_1, bi_2, bi_3, bi_4, bi_5, bi_6, bi_7, bi_8, bi_9, bi_10, bl_20, bl_21, bl_22, bl_23, bl_24, bl_25, bl_26, bl_48, bl_49, un_0, un_1, un_2, un_3, if_true, if_false, ite_true, ite_false, Bool.false_eq_true, Bool.not_eq_false, decide_not, Bool.not_not, reduceCtorEq, st_i, st_l, st_r, st_n, ee_noL, ee_noL.eq_1, List.length_cons, List.length_nil, Nat.reduceAdd, Nat.reduceLT, Nat.zero_add, and_true, true_and, and_self, fin_ite, pu_0, pu_1, pu_3, sto_0, el_0, Bool.not_eq_true, decide_eq_false_iff_not, Bool.decide_eq_true, Bool.decide_eq_false, decide_true, decide_false, Bool.not_true, Bool.not_false, Bool.and_self, Bool.and_true, Bool.and_false, Bool.true_and, Bool.false_and, Bool.or_true, Bool.or_false, Bool.true_or, Bool.false_or, if_true, if_false, Bool.false_eq_true, ix_0, ix_1, ix_40, ix_60, ix_63, ix_7, tc_0, tc_1, tc_40, tc_60, tc_63, tc_7, mz_0, mz_1, mz_a, rvs, j_s, j_a, wI_at, Nat.reduceEqDiff, zero_ne_one_n, one_ne_zero_n]
        try rfl
      · refine MQ_scr (q := 7) hQ hm (ROW_up o1 h1) (Nat.le_refl _) (by omega) _ _ h2 ?_ (fun _ => ?_) (fun z => by omega)
        · rw [hX, h1 _ (by omega), o2 _ (by omega)]; exact hk
        · rw [hX, h1 _ (by omega)]; exact o3
    · have g2 := g2 q1
      rw [if_neg q1]
      refine ⟨w, ?_, BOD_0 h.2.1 (nmf_b q1)⟩
      show ee_run ee_B P (d + 1) 209 [.ref 236, .int (Int32.ofNat 7), .int (Int32.ofNat X)] w = some ([.int (Int32.ofNat (nmf (kkf f n) (vvf f n) 1 60 i))], w)
      rw [k_7, rn_209 mz_0]
      simp +decide only [memc, memn, e1, g2, bd_209, k_0, k_1, k_40, k_60, k_63, k_7, nz_1, nz_40, nz_60, nz_63, nz_7, v_bin, v_call, v_cons, v_int, v_loc, v_nil, w_case, w_dflt, w_ret, w_switch, List.getElem?_cons_zero, List.getElem?_cons_succ, List.set_cons_zero, List.set_cons_succ, ee_cmp0, ee_cmp1, ee_cmp2, ee_cmp3, ee_cmp4, ee_cmp5, ee_cmpL0, ee_cmpL1, ee_cmpL2, ee_cmpL3, ee_cmpL4, ee_cmpL5, ee_tru_eb, decide_eq_true_eq, ib_i, ie_b, ie_f, ie_t, ib_l, fin_i, fin_l, fin_v, fin_z, fin_a, fin_n, ee_b_0, ee_fld0, ee_fld1, ee_fld2, ee_fld3, bi_0, bi_1, bi_2, bi_3, bi_4, bi_5, bi_6, bi_7, bi_8, bi_9, bi_10, bl_20, bl_21, bl_22, bl_23, bl_24, bl_25, bl_26, bl_48, bl_49, un_0, un_1, un_2, un_3, if_true, if_false, ite_true, ite_false, Bool.false_eq_true, Bool.not_eq_false, decide_not, Bool.not_not, reduceCtorEq, st_i, st_l, st_r, st_n, ee_noL, ee_noL.eq_1, List.length_cons, List.length_nil, Nat.reduceAdd, Nat.reduceLT, Nat.zero_add, and_true, true_and, and_self, fin_ite, pu_0, pu_1, pu_3, sto_0, el_0, Bool.not_eq_true, decide_eq_false_iff_not, Bool.decide_eq_true, Bool.decide_eq_false, decide_true, decide_false, Bool.not_true, Bool.not_false, Bool.and_self, Bool.and_true, Bool.and_false, Bool.true_and, Bool.false_and, Bool.or_true, Bool.or_false, Bool.true_or, Bool.false_or, if_true, if_false, Bool.false_eq_true, ix_0, ix_1, ix_40, ix_60, ix_63, ix_7, tc_0, tc_1, tc_40, tc_60, tc_63, tc_7, mz_0, mz_1, mz_a, rvs, j_s, j_a, wI_at, Nat.reduceEqDiff, zero_ne_one_n, one_ne_zero_n]
      try rfl
theorem m_law (hd : 10 ≤ d) (hb : ∀ i, i < n → bI (f i) 0 255) (hE : TKE f n c) (h : MC w n f i t W) (hi : i ≤ c) (hQ : MQW w t W T) (hm : T.1.1 < 24) {k : Nat} (hk1 : k ≤ 1) (h14 : w.1 236 14 = Int32.ofNat k) (hk : w.1 239 (681 * t + 1 + 3 * T.1.1) = Int32.ofNat k) (hT : (k = 0 → T.2.1 = none) ∧ (k = 1 → T.2.2 = none)) {r : PR} (hr : pp (kkf f n) (vvf f n) k F 0 0 i (.var 0) = some r) (hf : ∀ y, r = .inr y → 1 ≤ y.1 ∧ y.1 ≤ 5) :
    ∃ w', ee_run ee_B P d 209 [.ref 236, .int (Int32.ofNat k), .int (Int32.ofNat (681 * t + 1 + 3 * T.1.1))] w = some ([.int (Int32.ofNat (fcr (lwc T k (some r))))], w') ∧ BOD w w' n f t T (lwc T k (some r)) := by
  obtain ⟨d, rfl⟩ : ∃ k, d = k + 1 := ⟨d - 1, by omega⟩
  obtain ⟨d, rfl⟩ : ∃ k, d = k + 1 := ⟨d - 1, by omega⟩
  have ht := h.2.2.1
  have c300 := hE.1
  generalize hX : 681 * t + 1 + 3 * T.1.1 = X at *
  have e1 : Int32.ofNat X + 1 = Int32.ofNat (X + 1) := j_s X
  have e2 : Int32.ofNat X + 2 = Int32.ofNat (X + 2) := j_a X 2
  have x1 : ee_ix (Int32.ofNat (X + 1)) 2724 = true := by rw [ixn (by omega)]; exact decide_eq_true (by omega)
  have x2 : ee_ix (Int32.ofNat (X + 2)) 2724 = true := by rw [ixn (by omega)]; exact decide_eq_true (by omega)
  have h13 := h.2.2.2.2.1
  obtain ⟨w1, hw1⟩ : ∃ w1, w1 = ee_wI w 239 (X + 1) (Int32.ofNat W) := ⟨_, rfl⟩
  have o1 : ∀ c k, ¬ (c = 239 ∧ k = X + 1) → w1.1 c k = w.1 c k := fun c k h => by rw [hw1, wI_at, if_neg h]
  have M1 : MC w1 n f i t W := MC_no h (by rw [hw1]; exact chk_I (Or.inl rfl) (chk_refl _ _)) (by rw [hw1]; rfl)
  obtain ⟨w2, r2, c2, s2⟩ := m_sumd (P := P) (d := d) (by omega) hb hE M1 hi hk1 ((o1 _ _ (by omega)).trans h14) hr
  have o2 : ∀ k, k < 681 * t + 73 → w2.1 239 k = w1.1 239 k := fun k hk => c2.1 _ _ (by unfold pms pem ptk; omega)
  -- what was written by then
  obtain ⟨v, hv⟩ : ∃ v, v = w2.1 236 13 := ⟨_, rfl⟩
  obtain ⟨w3, hw3⟩ : ∃ w3, w3 = ee_wI w2 239 (X + 2) v := ⟨_, rfl⟩
  have o3 : ∀ c k, ¬ (c = 239 ∧ k = X + 2) → w3.1 c k = w2.1 c k := fun c k h => by rw [hw3, wI_at, if_neg h]
  have cc : chk (pcm t) w w3 := chk_trans (by rw [hw1]; exact chk_I (Or.inr (Or.inl ⟨rfl, by omega, by omega⟩)) (chk_refl _ _)) (chk_trans (pcm_s c2) (by rw [hw3]; exact chk_I (Or.inr (Or.inl ⟨rfl, by omega, by omega⟩)) (chk_refl _ _)))
  have r212 : ee_run ee_B P (d + 1) 212 [.ref 236, .int (Int32.ofNat X)] w = some ([.int (Int32.ofNat (fno r))], w3) := by
    rw [rn_212 mz_0]
    simp only [e1, e2, x1, x2, h13, tnc (show X + 1 < 2147483648 by omega), tnc (show X + 2 < 2147483648 by omega), ← hw1, r2, ← hv, ← hw3, mz_t, mz_ts, bd_212, k_1, k_2, nz_1, nz_2, v_bin, v_call, v_cons, v_get, v_int, v_loc, v_nil, w_ret, w_seq, w_set, w_sto, List.getElem?_cons_zero, List.getElem?_cons_succ, List.set_cons_zero, List.set_cons_succ, ee_cmp0, ee_cmp1, ee_cmp2, ee_cmp3, ee_cmp4, ee_cmp5, ee_cmpL0, ee_cmpL1, ee_cmpL2, ee_cmpL3, ee_cmpL4, ee_cmpL5, ee_tru_eb, decide_eq_true_eq, ib_i, ie_b, ie_f, ie_t, ib_l, fin_i, fin_l, fin_v, fin_z, fin_a, fin_n, ee_b_0, ee_fld0, ee_fld1, ee_fld2, ee_fld3, bi_0, bi_1, bi_2, bi_3, bi_4, bi_5, bi_6, bi_7, bi_8, bi_9, bi_10, bl_20, bl_21, bl_22, bl_23, bl_24, bl_25, bl_26, bl_48, bl_49, un_0, un_1, un_2, un_3, if_true, if_false, ite_true, ite_false, Bool.false_eq_true, Bool.not_eq_false, decide_not, Bool.not_not, reduceCtorEq, st_i, st_l, st_r, st_n, ee_noL, ee_noL.eq_1, List.length_cons, List.length_nil, Nat.reduceAdd, Nat.reduceLT, Nat.zero_add, and_true, true_and, and_self, fin_ite, pu_0, pu_1, pu_3, sto_0, el_0, Bool.not_eq_true, decide_eq_false_iff_not, Bool.decide_eq_true, Bool.decide_eq_false, decide_true, decide_false, Bool.not_true, Bool.not_false, Bool.and_self, Bool.and_true, Bool.and_false, Bool.true_and, Bool.false_and, Bool.or_true, Bool.or_false, Bool.true_or, Bool.false_or, if_true, if_false, Bool.false_eq_true, ix_1, ix_2, tc_1, tc_2, mz_0, mz_1, mz_a, rvs, j_s, j_a, wI_at, Nat.reduceEqDiff, zero_ne_one_n, one_ne_zero_n]
    try rfl
  have r209 : ee_run ee_B P (d + 1 + 1) 209 [.ref 236, .int (Int32.ofNat k), .int (Int32.ofNat X)] w = some ([.int (Int32.ofNat (fno r))], w3) := by
    have : k = 0 ∨ k = 1 := by omega
    rcases this with rfl | rfl
    · rw [k_0, rn_209 mz_0]
      simp +decide only [memc, memn, r212, bd_209, k_0, k_1, k_40, k_60, k_63, k_7, nz_1, nz_40, nz_60, nz_63, nz_7, v_bin, v_call, v_cons, v_int, v_loc, v_nil, w_case, w_dflt, w_ret, w_switch, List.getElem?_cons_zero, List.getElem?_cons_succ, List.set_cons_zero, List.set_cons_succ, ee_cmp0, ee_cmp1, ee_cmp2, ee_cmp3, ee_cmp4, ee_cmp5, ee_cmpL0, ee_cmpL1, ee_cmpL2, ee_cmpL3, ee_cmpL4, ee_cmpL5, ee_tru_eb, decide_eq_true_eq, ib_i, ie_b, ie_f, ie_t, ib_l, fin_i, fin_l, fin_v, fin_z, fin_a, fin_n, ee_b_0, ee_fld0, ee_fld1, ee_fld2, ee_fld3, bi_0, bi_1, bi_2, bi_3, bi_4, bi_5, bi_6, bi_7, bi_8, bi_9, bi_10, bl_20, bl_21, bl_22, bl_23, bl_24, bl_25, bl_26, bl_48, bl_49, un_0, un_1, un_2, un_3, if_true, if_false, ite_true, ite_false, Bool.false_eq_true, Bool.not_eq_false, decide_not, Bool.not_not, reduceCtorEq, st_i, st_l, st_r, st_n, ee_noL, ee_noL.eq_1, List.length_cons, List.length_nil, Nat.reduceAdd, Nat.reduceLT, Nat.zero_add, and_true, true_and, and_self, fin_ite, pu_0, pu_1, pu_3, sto_0, el_0, Bool.not_eq_true, decide_eq_false_iff_not, Bool.decide_eq_true, Bool.decide_eq_false, decide_true, decide_false, Bool.not_true, Bool.not_false, Bool.and_self, Bool.and_true, Bool.and_false, Bool.true_and, Bool.false_and, Bool.or_true, Bool.or_false, Bool.true_or, Bool.false_or, if_true, if_false, Bool.false_eq_true, ix_0, ix_1, ix_40, ix_60, ix_63, ix_7, tc_0, tc_1, tc_40, tc_60, tc_63, tc_7, mz_0, mz_1, mz_a, rvs, j_s, j_a, wI_at, Nat.reduceEqDiff, zero_ne_one_n, one_ne_zero_n]
      try rfl
    · rw [k_1, rn_209 mz_0]
      simp +decide only [memc, memn, r212, bd_209, k_0, k_1, k_40, k_60, k_63, k_7, nz_1, nz_40, nz_60, nz_63, nz_7, v_bin, v_call, v_cons, v_int, v_loc, v_nil, w_case, w_dflt, w_ret, w_switch, List.getElem?_cons_zero, List.getElem?_cons_succ, List.set_cons_zero, List.set_cons_succ, ee_cmp0, ee_cmp1, ee_cmp2, ee_cmp3, ee_cmp4, ee_cmp5, ee_cmpL0, ee_cmpL1, ee_cmpL2, ee_cmpL3, ee_cmpL4, ee_cmpL5, ee_tru_eb, decide_eq_true_eq, ib_i, ie_b, ie_f, ie_t, ib_l, fin_i, fin_l, fin_v, fin_z, fin_a, fin_n, ee_b_0, ee_fld0, ee_fld1, ee_fld2, ee_fld3, bi_0, bi_1, bi_2, bi_3, bi_4, bi_5, bi_6, bi_7, bi_8, bi_9, bi_10, bl_20, bl_21, bl_22, bl_23, bl_24, bl_25, bl_26, bl_48, bl_49, un_0, un_1, un_2, un_3, if_true, if_false, ite_true, ite_false, Bool.false_eq_true, Bool.not_eq_false, decide_not, Bool.not_not, reduceCtorEq, st_i, st_l, st_r, st_n, ee_noL, ee_noL.eq_1, List.length_cons, List.length_nil, Nat.reduceAdd, Nat.reduceLT, Nat.zero_add, and_true, true_and, and_self, fin_ite, pu_0, pu_1, pu_3, sto_0, el_0, Bool.not_eq_true, decide_eq_false_iff_not, Bool.decide_eq_true, Bool.decide_eq_false, decide_true, decide_false, Bool.not_true, Bool.not_false, Bool.and_self, Bool.and_true, Bool.and_false, Bool.true_and, Bool.false_and, Bool.or_true, Bool.or_false, Bool.true_or, Bool.false_or, if_true, if_false, Bool.false_eq_true, ix_0, ix_1, ix_40, ix_60, ix_63, ix_7, tc_0, tc_1, tc_40, tc_60, tc_63, tc_7, mz_0, mz_1, mz_a, rvs, j_s, j_a, wI_at, Nat.reduceEqDiff, zero_ne_one_n, one_ne_zero_n]
      try rfl
  have e19 : w3.1 236 19 = w.1 236 19 := by rw [o3 _ _ (by omega), c2.1 _ _ (by unfold pms pem ptk; omega), o1 _ _ (by omega)]
  have e681 : w3.1 239 (681 * t) = w.1 239 (681 * t) := by rw [o3 _ _ (by omega), o2 _ (by omega), o1 _ _ (by omega)]
  cases r with
  | inr y => exact ⟨w3, r209, cc, e19, e681, by rw [o3 _ _ (by omega)]; exact tkn_st s2.2, (hf y rfl).1, by have := (hf y rfl).2; omega⟩
  | inl z =>
    obtain ⟨W2, M2, g1, g2, g3⟩ := s2
    have v2 : v = Int32.ofNat W2 := hv.trans M2.2.2.2.2.1
    have M3 : MC w3 n f z.2 t W2 := MC_no M2 (by rw [hw3]; exact chk_I (Or.inl rfl) (chk_refl _ _)) (by rw [hw3]; rfl)
    have pk := pp_ok hE.2 F 0 0 i (.var 0) z.1 z.2 (by omega) hr (by omega) hi (fun q => by cases q)
    obtain ⟨-, z2c, -, pt, pl, -⟩ := pk
    have W300 := M2.2.2.2.2.2
    have cd : ∀ k, k < 300 → mcode w3 t k = mcode w2 t k := fun k _ => by
      unfold mcode
      rw [o3 _ _ (by omega), o3 _ _ (by omega)]
    have cd1 : ∀ k, mcode w1 t k = mcode w t k := fun k => by
      unfold mcode
      rw [o1 _ _ (by omega), o1 _ _ (by omega)]
    refine ⟨w3, r209, cc, e19, e681, W2, M3, fun w'' h1 h2 => ?_⟩
    have cd3 : ∀ k, mcode w'' t k = mcode w3 t k := fun k => by
      unfold mcode
      rw [h1 _ (by omega), h1 _ (by omega)]
    refine MQ_law (A := W) (E := W2) hQ hm ⟨fun k a b => ?_, fun k a => ?_⟩ g3 hk1 hT h2 ?_ ?_ ?_ (Nat.le_refl _) pt pl (mseg_cg g1 (fun q _ q2 => by rw [cd3, cd q (by omega)]))
    · rw [h1 _ (by omega), o3 _ _ (by omega), o2 _ (by omega), o1 _ _ (by omega)]
    · rw [cd3, cd k (by omega), g2 k a, cd1]
    · rw [hX, h1 _ (by omega), o3 _ _ (by omega), o2 _ (by omega), o1 _ _ (by omega)]; exact hk
    · rw [hX, h1 _ (by omega), o3 _ _ (by omega), o2 _ (by omega), hw1, wI_at, if_pos ⟨rfl, rfl⟩]
    · rw [hX, h1 _ (by omega), hw3, wI_at, if_pos ⟨rfl, rfl⟩, v2]
theorem cbo_2 {K V : Nat → Nat} {k : Nat} {z : TX × Nat} (hk : k ≤ 7) (h : cbo K V F T k i = .inl z) : (2 ≤ k → z.1.2 = T.2) ∧ (k = 0 → ∃ e, z.1.2 = (some e, T.2.2)) ∧ (k = 1 → ∃ e, z.1.2 = (T.2.1, some e)) := by
  unfold cbo at h
  by_cases k1 : k ≤ 1
  · rw [if_pos k1] at h
    cases hp : pp K V k F 0 0 i (.var 0) with
    | none => rw [hp] at h; cases h
    | some r =>
      rw [hp] at h
      cases r with
      | inr y => cases h
      | inl x =>
        cases h
        refine ⟨fun q => by omega, fun q => ⟨x.1, ?_⟩, fun q => ⟨x.1, ?_⟩⟩
        · show (setl (addc T k 0 0) k x.1).2 = _
          rw [setl_p q]; rfl
        · show (setl (addc T k 0 0) k x.1).2 = _
          rw [setl_n (by omega)]; rfl
  rw [if_neg k1] at h
  refine ⟨fun _ => ?_, fun q => by omega, fun q => by omega⟩
  by_cases k2 : k = 2
  · rw [if_pos k2] at h
    by_cases q1 : nmf K V 0 7 i = 0
    · rw [if_pos q1] at h
      by_cases q2 : K (i + 1) = 8
      · rw [if_pos q2] at h
        by_cases q3 : nmf K V 0 7 (i + 2) = 0
        · rw [if_pos q3] at h; cases h; rfl
        · rw [if_neg q3] at h; cases h
      · rw [if_neg q2] at h; cases h
    · rw [if_neg q1] at h; cases h
  rw [if_neg k2] at h
  by_cases k6 : k = 6
  · rw [if_pos k6] at h; cases h; rfl
  rw [if_neg k6] at h
  by_cases q1 : nmf K V (lok k) (hik k) i = 0
  · rw [if_pos q1] at h; cases h; rfl
  · rw [if_neg q1] at h; cases h
end MRD
