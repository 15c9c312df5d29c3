/-! the reference's token -/
section NTK
variable {P : Nat → Nat → List Value → ee_W → Option (List Value × ee_W)} {d : Nat} {w : ee_W} {f : Nat → Int32} {n p s : Nat}
abbrev cm2 (f : Nat → Int32) (n s : Nat) : Prop := (f s = 60 ∨ f s = 62) ∧ s + 1 < n ∧ f (s + 1) = 61
def MTK (w : ee_W) (f : Nat → Int32) (n s : Nat) : Prop := s ≤ n ∧ w.1 236 8 = Int32.ofNat s ∧ w.1 236 7 = Int32.ofNat (tok f n s).2.2.2 ∧
  ((n ≤ s ∧ w.1 236 9 = 0) ∨ (s < n ∧ isLi (f s) = true ∧ w.1 236 9 = 2 ∧ w.2.1 236 11 = Int64.ofNat (wv f s (rnq isLi f n s - s))) ∨
   (s < n ∧ isLi (f s) = false ∧ isDi (f s) = true ∧ w.1 236 9 = 1 ∧ w.1 236 10 = Int32.ofNat (mnm f s (rnq isDi f n s - s))) ∨
   (s < n ∧ isLi (f s) = false ∧ isDi (f s) = false ∧ cm2 f n s ∧ w.1 236 9 = if f s = 60 then 4 else 5) ∨
   (s < n ∧ isLi (f s) = false ∧ isDi (f s) = false ∧ ¬ cm2 f n s ∧ w.1 236 9 = if sgs (f s) = true then f s else 3))
theorem m_next (hd : 2 ≤ d) (hT : MTAP w n f) (hb : ∀ i, i < n → bI (f i) 0 255) (h7 : w.1 236 7 = Int32.ofNat p) (hp : p ≤ n) : ∃ w', ee_run ee_B P d 195 [.ref 236] w = some ([], w') ∧ MTK w' f n (rnq isBi f n p) ∧ chk ptk w w' := by
  obtain ⟨d, rfl⟩ : ∃ k, d = k + 1 := ⟨d - 1, by omega⟩
  have hd1 : 1 ≤ d := by omega
  have n300 := hT.1
  obtain ⟨x, b1, b2, b3⟩ := m_blank (P := P) hd1 hT h7 hp
  obtain ⟨-, s2, -, -⟩ := rnq_spec isBi f hp
  generalize rnq isBi f n p = s at *
  have hTx := MTAP_tk hT b3
  have hT8 : MTAP (ee_wI x 236 8 (Int32.ofNat s)) n f := MTAP_tk hT (chk_I ⟨rfl, by omega, by omega⟩ b3)
  have h87 : (ee_wI x 236 8 (Int32.ofNat s)).1 236 7 = Int32.ofNat s := by rw [wI_at, if_neg (by omega)]; exact b2
  have h88 : (ee_wI x 236 8 (Int32.ofNat s)).1 236 8 = Int32.ofNat s := by rw [wI_at, if_pos ⟨rfl, rfl⟩]
  have hc8 : chk ptk w (ee_wI x 236 8 (Int32.ofNat s)) := chk_I ⟨rfl, by omega, by omega⟩ b3
  have ba := m_byteAt (P := P) hd1 hT8 (show s ≤ 1000 by omega)
  rw [rn_195 mz_0]
  generalize hy : ee_wI x 236 8 (Int32.ofNat s) = y at *
  by_cases sn : s < n
  · rw [fb_in sn] at ba
    have bs := hb s sn
    have c0 : ¬ f s < 0 := fun z => by
      rw [i32_lt, show (0 : Int32).toInt = 0 from rfl] at z
      unfold bI at bs
      omega
    have fi := m_isFigure (P := P) (w := y) hd1 (f s)
    have le := m_isLetter (P := P) (w := y) hd1 (f s)
    by_cases q1 : isLi (f s) = true
    · have q2 := li_di q1
      rw [q1] at le
      rw [q2] at fi
      have hT9 : MTAP (ee_wJ (ee_wI y 236 9 2) 236 11 0) n f := MTAP_tk hT8 (chk_J (chk_I ⟨rfl, by omega, by omega⟩ (chk_refl _ _)))
      obtain ⟨z, l1, l2, l3, l4⟩ := m_lets (P := P) (w := ee_wJ (ee_wI y 236 9 2) 236 11 0) hd1 hT9 (p := s) (by show (ee_wI y 236 9 2).1 236 7 = _; rw [wI_at, if_neg (by omega)]; exact h87) (by rw [wJ_at, if_pos ⟨rfl, rfl⟩]) s2 (some (.int (f s)))
      have ht : tok f n s = (wnum f s (rnq isLi f n s), 0, s, rnq isLi f n s) := by unfold tok; rw [if_neg (by omega), if_pos q1]
      refine ⟨z, ?_, ⟨s2, ?_, by rw [ht]; exact l2, Or.inr (Or.inl ⟨sn, q1, ?_, l3⟩)⟩, chk_trans hc8 (chk_trans (chk_J (chk_I ⟨rfl, by omega, by omega⟩ (chk_refl _ _))) (chk_mono l4 (fun c k h => by obtain ⟨h1, h2⟩ := h; exact ⟨h1, by omega, by omega⟩)))⟩
      · simp only [w_while, b1, b2, hy, h87, ba, c0, fi, le, l1, be_195, k_0, k_1, k_10, k_2, k_3, k_32, k_4, k_48, k_5, k_60, k_61, k_62, k_8, k_99999, kl_0, kl_1152921504606846976, nz_1, nz_10, nz_2, nz_3, nz_32, nz_4, nz_48, nz_5, nz_60, nz_61, nz_62, nz_8, nz_99999, v_and, v_bin, v_call, v_cmp, v_cmpL, v_cons, v_get, v_int, v_loc, v_long, v_nil, v_or, v_tern, v_un, v_z, w_if, w_opf, w_put, w_retv, w_seq, w_set, w_skip, List.getElem?_cons_zero, List.getElem?_cons_succ, List.set_cons_zero, List.set_cons_succ, ee_cmp0, ee_cmp1, ee_cmp2, ee_cmp3, ee_cmp4, ee_cmp5, ee_cmpL0, ee_cmpL1, ee_cmpL2, ee_cmpL3, ee_cmpL4, ee_cmpL5, ee_tru_eb, decide_eq_true_eq, ib_i, ie_b, ie_f, ie_t, ib_l, fin_i, fin_l, fin_v, fin_z, fin_a, fin_n, ee_b_0, ee_fld0, ee_fld1, ee_fld2, ee_fld3, bi_0, bi_1, bi_2, bi_3, bi_4, bi_5, bi_6, bi_7, bi_8, bi_9, bi_10, bl_20, bl_21, bl_22, bl_23, bl_24, bl_25, bl_26, bl_48, bl_49, un_0, un_1, un_2, un_3, if_true, if_false, ite_true, ite_false, Bool.false_eq_true, Bool.not_eq_false, decide_not, Bool.not_not, reduceCtorEq, st_i, st_l, st_r, st_n, ee_noL, ee_noL.eq_1, List.length_cons, List.length_nil, Nat.reduceAdd, Nat.reduceLT, Nat.zero_add, and_true, true_and, and_self, fin_ite, pu_0, pu_1, pu_3, sto_0, el_0, Bool.not_eq_true, decide_eq_false_iff_not, Bool.decide_eq_true, Bool.decide_eq_false, decide_true, decide_false, Bool.not_true, Bool.not_false, Bool.and_self, Bool.and_true, Bool.and_false, Bool.true_and, Bool.false_and, Bool.or_true, Bool.or_false, Bool.true_or, Bool.false_or, if_true, if_false, Bool.false_eq_true, ix_0, ix_1, ix_10, ix_2, ix_3, ix_32, ix_4, ix_48, ix_5, ix_60, ix_61, ix_62, ix_8, ix_99999, tc_0, tc_1, tc_10, tc_2, tc_3, tc_32, tc_4, tc_48, tc_5, tc_60, tc_61, tc_62, tc_8, tc_99999, mz_0, mz_1, mz_a, rvs, j_s, j_a, wI_at, Nat.reduceEqDiff, zero_ne_one_n, one_ne_zero_n]
      · rw [l4.1 _ _ (by omega)]
        show (ee_wI y 236 9 2).1 236 8 = _
        rw [wI_at, if_neg (by omega)]; exact h88
      · rw [l4.1 _ _ (by omega)]
        show (ee_wI y 236 9 2).1 236 9 = _
        rw [wI_at, if_pos ⟨rfl, rfl⟩]
    · have q1' := bf q1
      rw [q1'] at le
      by_cases q2 : isDi (f s) = true
      · rw [q2] at fi
        have hT9 : MTAP (ee_wI (ee_wI y 236 9 1) 236 10 0) n f := MTAP_tk hT8 (chk_I ⟨rfl, by omega, by omega⟩ (chk_I ⟨rfl, by omega, by omega⟩ (chk_refl _ _)))
        obtain ⟨z, l1, l2, l3, l4⟩ := m_figs (P := P) (w := ee_wI (ee_wI y 236 9 1) 236 10 0) hd1 hT9 (p := s) (by rw [wI_at, if_neg (by omega), wI_at, if_neg (by omega)]; exact h87) (by rw [wI_at, if_pos ⟨rfl, rfl⟩]) s2 (some (.int (f s)))
        have ht : tok f n s = (38, nvk f s (rnq isDi f n s - s), s, rnq isDi f n s) := by unfold tok; rw [if_neg (by omega), if_neg q1, if_pos q2]
        refine ⟨z, ?_, ⟨s2, ?_, by rw [ht]; exact l2, Or.inr (Or.inr (Or.inl ⟨sn, q1', q2, ?_, l3⟩))⟩, chk_trans hc8 (chk_trans (chk_I ⟨rfl, by omega, by omega⟩ (chk_I ⟨rfl, by omega, by omega⟩ (chk_refl _ _))) (chk_mono l4 (fun c k h => by obtain ⟨h1, h2⟩ := h; exact ⟨h1, by omega, by omega⟩)))⟩
        · simp only [w_while, b1, b2, hy, h87, ba, c0, fi, le, l1, be_195, k_0, k_1, k_10, k_2, k_3, k_32, k_4, k_48, k_5, k_60, k_61, k_62, k_8, k_99999, kl_0, kl_1152921504606846976, nz_1, nz_10, nz_2, nz_3, nz_32, nz_4, nz_48, nz_5, nz_60, nz_61, nz_62, nz_8, nz_99999, v_and, v_bin, v_call, v_cmp, v_cmpL, v_cons, v_get, v_int, v_loc, v_long, v_nil, v_or, v_tern, v_un, v_z, w_if, w_opf, w_put, w_retv, w_seq, w_set, w_skip, List.getElem?_cons_zero, List.getElem?_cons_succ, List.set_cons_zero, List.set_cons_succ, ee_cmp0, ee_cmp1, ee_cmp2, ee_cmp3, ee_cmp4, ee_cmp5, ee_cmpL0, ee_cmpL1, ee_cmpL2, ee_cmpL3, ee_cmpL4, ee_cmpL5, ee_tru_eb, decide_eq_true_eq, ib_i, ie_b, ie_f, ie_t, ib_l, fin_i, fin_l, fin_v, fin_z, fin_a, fin_n, ee_b_0, ee_fld0, ee_fld1, ee_fld2, ee_fld3, bi_0, bi_1, bi_2, bi_3, bi_4, bi_5, bi_6, bi_7, bi_8, bi_9, bi_10, bl_20, bl_21, bl_22, bl_23, bl_24, bl_25, bl_26, bl_48, bl_49, un_0, un_1, un_2, un_3, if_true, if_false, ite_true, ite_false, Bool.false_eq_true, Bool.not_eq_false, decide_not, Bool.not_not, reduceCtorEq, st_i, st_l, st_r, st_n, ee_noL, ee_noL.eq_1, List.length_cons, List.length_nil, Nat.reduceAdd, Nat.reduceLT, Nat.zero_add, and_true, true_and, and_self, fin_ite, pu_0, pu_1, pu_3, sto_0, el_0, Bool.not_eq_true, decide_eq_false_iff_not, Bool.decide_eq_true, Bool.decide_eq_false, decide_true, decide_false, Bool.not_true, Bool.not_false, Bool.and_self, Bool.and_true, Bool.and_false, Bool.true_and, Bool.false_and, Bool.or_true, Bool.or_false, Bool.true_or, Bool.false_or, if_true, if_false, Bool.false_eq_true, ix_0, ix_1, ix_10, ix_2, ix_3, ix_32, ix_4, ix_48, ix_5, ix_60, ix_61, ix_62, ix_8, ix_99999, tc_0, tc_1, tc_10, tc_2, tc_3, tc_32, tc_4, tc_48, tc_5, tc_60, tc_61, tc_62, tc_8, tc_99999, mz_0, mz_1, mz_a, rvs, j_s, j_a, wI_at, Nat.reduceEqDiff, zero_ne_one_n, one_ne_zero_n]
        · rw [l4.1 _ _ (by omega), wI_at, if_neg (by omega), wI_at, if_neg (by omega)]; exact h88
        · rw [l4.1 _ _ (by omega), wI_at, if_neg (by omega), wI_at, if_pos ⟨rfl, rfl⟩]
      · have q2' := bf q2
        rw [q2'] at fi
        have si := m_isSign (P := P) (w := y) hd1 (f s)
        obtain ⟨tv, htv⟩ : ∃ tv, tv = if sgs (f s) = true then f s else 3 := ⟨_, rfl⟩
        have hT9 : MTAP (ee_wI (ee_wI y 236 9 tv) 236 7 (Int32.ofNat (s + 1))) n f := MTAP_tk hT8 (chk_I ⟨rfl, by omega, by omega⟩ (chk_I ⟨rfl, by omega, by omega⟩ (chk_refl _ _)))
        have ba2 := m_byteAt (P := P) hd1 hT9 (show s + 1 ≤ 1000 by omega)
        have e7 : (ee_wI y 236 9 tv).1 236 7 = Int32.ofNat s := by rw [wI_at, if_neg (by omega)]; exact h87
        have e77 : (ee_wI (ee_wI y 236 9 tv) 236 7 (Int32.ofNat (s + 1))).1 236 7 = Int32.ofNat (s + 1) := by rw [wI_at, if_pos ⟨rfl, rfl⟩]
        have e97 : ∀ v : Int32, (ee_wI (ee_wI (ee_wI y 236 9 tv) 236 7 (Int32.ofNat (s + 1))) 236 9 v).1 236 7 = Int32.ofNat (s + 1) := fun v => by rw [wI_at, if_neg (by omega)]; exact e77
        by_cases q3 : cm2 f n s
        · have ht : tok f n s = ((if f s = 60 then 26 else 28), 0, s, s + 2) := by unfold tok; rw [if_neg (by omega), if_neg q1, if_neg q2, if_pos q3]
          have q3' := q3
          obtain ⟨g1, g2, g3⟩ := q3
          rw [fb_in g2, g3] at ba2
          refine ⟨ee_wI (ee_wI (ee_wI (ee_wI y 236 9 tv) 236 7 (Int32.ofNat (s + 1))) 236 9 (if f s = 60 then 4 else 5)) 236 7 (Int32.ofNat (s + 2)), ?_, ⟨s2, ?_, ?_, Or.inr (Or.inr (Or.inr (Or.inl ⟨sn, q1', q2', q3', ?_⟩)))⟩, chk_I ⟨rfl, by omega, by omega⟩ (chk_I ⟨rfl, by omega, by omega⟩ (chk_I ⟨rfl, by omega, by omega⟩ (chk_I ⟨rfl, by omega, by omega⟩ hc8)))⟩
          · rcases g1 with g1 | g1
            · have sg : sgs (f s) = true := by rw [g1]; decide
              rw [sg] at si
              rw [sg, if_pos rfl, g1] at htv
              subst htv
              have g1t : (f s = 60) = True := eq_true g1
              rw [g1] at ba si fi le c0
              simp only [w_while, b1, b2, hy, h87, ba, c0, fi, le, si, e7, e77, e97, ba2, g1t, w_opf, be_195, k_0, k_1, k_10, k_2, k_3, k_32, k_4, k_48, k_5, k_60, k_61, k_62, k_8, k_99999, kl_0, kl_1152921504606846976, nz_1, nz_10, nz_2, nz_3, nz_32, nz_4, nz_48, nz_5, nz_60, nz_61, nz_62, nz_8, nz_99999, v_and, v_bin, v_call, v_cmp, v_cmpL, v_cons, v_get, v_int, v_loc, v_long, v_nil, v_or, v_tern, v_un, v_z, w_if, w_opf, w_put, w_retv, w_seq, w_set, w_skip, List.getElem?_cons_zero, List.getElem?_cons_succ, List.set_cons_zero, List.set_cons_succ, ee_cmp0, ee_cmp1, ee_cmp2, ee_cmp3, ee_cmp4, ee_cmp5, ee_cmpL0, ee_cmpL1, ee_cmpL2, ee_cmpL3, ee_cmpL4, ee_cmpL5, ee_tru_eb, decide_eq_true_eq, ib_i, ie_b, ie_f, ie_t, ib_l, fin_i, fin_l, fin_v, fin_z, fin_a, fin_n, ee_b_0, ee_fld0, ee_fld1, ee_fld2, ee_fld3, bi_0, bi_1, bi_2, bi_3, bi_4, bi_5, bi_6, bi_7, bi_8, bi_9, bi_10, bl_20, bl_21, bl_22, bl_23, bl_24, bl_25, bl_26, bl_48, bl_49, un_0, un_1, un_2, un_3, if_true, if_false, ite_true, ite_false, Bool.false_eq_true, Bool.not_eq_false, decide_not, Bool.not_not, reduceCtorEq, st_i, st_l, st_r, st_n, ee_noL, ee_noL.eq_1, List.length_cons, List.length_nil, Nat.reduceAdd, Nat.reduceLT, Nat.zero_add, and_true, true_and, and_self, fin_ite, pu_0, pu_1, pu_3, sto_0, el_0, Bool.not_eq_true, decide_eq_false_iff_not, Bool.decide_eq_true, Bool.decide_eq_false, decide_true, decide_false, Bool.not_true, Bool.not_false, Bool.and_self, Bool.and_true, Bool.and_false, Bool.true_and, Bool.false_and, Bool.or_true, Bool.or_false, Bool.true_or, Bool.false_or, if_true, if_false, Bool.false_eq_true, ix_0, ix_1, ix_10, ix_2, ix_3, ix_32, ix_4, ix_48, ix_5, ix_60, ix_61, ix_62, ix_8, ix_99999, tc_0, tc_1, tc_10, tc_2, tc_3, tc_32, tc_4, tc_48, tc_5, tc_60, tc_61, tc_62, tc_8, tc_99999, mz_0, mz_1, mz_a, rvs, j_s, j_a, wI_at, Nat.reduceEqDiff, zero_ne_one_n, one_ne_zero_n]
            · have sg : sgs (f s) = true := by rw [g1]; decide
              have n60 : ¬ f s = 60 := by rw [g1]; decide
              rw [sg] at si
              rw [sg, if_pos rfl, g1] at htv
              subst htv
              have g1t : (f s = 60) = False := eq_false n60
              have g62 : ¬ (62 : Int32) = 60 := by decide
              rw [g1] at ba si fi le c0
              simp only [w_while, b1, b2, hy, h87, ba, c0, fi, le, si, e7, e77, e97, ba2, g1t, g62, w_opf, be_195, k_0, k_1, k_10, k_2, k_3, k_32, k_4, k_48, k_5, k_60, k_61, k_62, k_8, k_99999, kl_0, kl_1152921504606846976, nz_1, nz_10, nz_2, nz_3, nz_32, nz_4, nz_48, nz_5, nz_60, nz_61, nz_62, nz_8, nz_99999, v_and, v_bin, v_call, v_cmp, v_cmpL, v_cons, v_get, v_int, v_loc, v_long, v_nil, v_or, v_tern, v_un, v_z, w_if, w_opf, w_put, w_retv, w_seq, w_set, w_skip, List.getElem?_cons_zero, List.getElem?_cons_succ, List.set_cons_zero, List.set_cons_succ, ee_cmp0, ee_cmp1, ee_cmp2, ee_cmp3, ee_cmp4, ee_cmp5, ee_cmpL0, ee_cmpL1, ee_cmpL2, ee_cmpL3, ee_cmpL4, ee_cmpL5, ee_tru_eb, decide_eq_true_eq, ib_i, ie_b, ie_f, ie_t, ib_l, fin_i, fin_l, fin_v, fin_z, fin_a, fin_n, ee_b_0, ee_fld0, ee_fld1, ee_fld2, ee_fld3, bi_0, bi_1, bi_2, bi_3, bi_4, bi_5, bi_6, bi_7, bi_8, bi_9, bi_10, bl_20, bl_21, bl_22, bl_23, bl_24, bl_25, bl_26, bl_48, bl_49, un_0, un_1, un_2, un_3, if_true, if_false, ite_true, ite_false, Bool.false_eq_true, Bool.not_eq_false, decide_not, Bool.not_not, reduceCtorEq, st_i, st_l, st_r, st_n, ee_noL, ee_noL.eq_1, List.length_cons, List.length_nil, Nat.reduceAdd, Nat.reduceLT, Nat.zero_add, and_true, true_and, and_self, fin_ite, pu_0, pu_1, pu_3, sto_0, el_0, Bool.not_eq_true, decide_eq_false_iff_not, Bool.decide_eq_true, Bool.decide_eq_false, decide_true, decide_false, Bool.not_true, Bool.not_false, Bool.and_self, Bool.and_true, Bool.and_false, Bool.true_and, Bool.false_and, Bool.or_true, Bool.or_false, Bool.true_or, Bool.false_or, if_true, if_false, Bool.false_eq_true, ix_0, ix_1, ix_10, ix_2, ix_3, ix_32, ix_4, ix_48, ix_5, ix_60, ix_61, ix_62, ix_8, ix_99999, tc_0, tc_1, tc_10, tc_2, tc_3, tc_32, tc_4, tc_48, tc_5, tc_60, tc_61, tc_62, tc_8, tc_99999, mz_0, mz_1, mz_a, rvs, j_s, j_a, wI_at, Nat.reduceEqDiff, zero_ne_one_n, one_ne_zero_n]
          · rw [wI_at, if_neg (by omega), wI_at, if_neg (by omega), wI_at, if_neg (by omega), wI_at, if_neg (by omega)]; exact h88
          · rw [ht, wI_at, if_pos ⟨rfl, rfl⟩]
          · rw [wI_at, if_neg (by omega), wI_at, if_pos ⟨rfl, rfl⟩]
        · have ht : tok f n s = (sgk (f s), 0, s, s + 1) := by unfold tok; rw [if_neg (by omega), if_neg q1, if_neg q2, if_neg q3]
          refine ⟨ee_wI (ee_wI y 236 9 tv) 236 7 (Int32.ofNat (s + 1)), ?_, ⟨s2, ?_, ?_, Or.inr (Or.inr (Or.inr (Or.inr ⟨sn, q1', q2', q3, ?_⟩)))⟩, chk_I ⟨rfl, by omega, by omega⟩ (chk_I ⟨rfl, by omega, by omega⟩ hc8)⟩
          · have fin : ∀ r : Int32, fb f n (s + 1) = r → (f s = 60 ∨ f s = 62) → ¬ r = 61 := by
              intro r hr h1 h2
              by_cases z : s + 1 < n
              · rw [fb_in z] at hr
                exact q3 ⟨h1, z, hr.trans h2⟩
              · rw [fb_m1 z] at hr
                rw [← hr] at h2
                exact absurd h2 (by decide)
            cases sg : sgs (f s)
            · rw [sg] at si
              rw [sg, if_neg (by decide)] at htv
              subst htv
              have n60 : ¬ f s = 60 := fun z => by rw [z] at sg; exact absurd sg (by decide)
              have n62 : ¬ f s = 62 := fun z => by rw [z] at sg; exact absurd sg (by decide)
              simp only [w_while, b1, b2, hy, h87, ba, c0, fi, le, si, e7, n60, n62, w_opf, be_195, k_0, k_1, k_10, k_2, k_3, k_32, k_4, k_48, k_5, k_60, k_61, k_62, k_8, k_99999, kl_0, kl_1152921504606846976, nz_1, nz_10, nz_2, nz_3, nz_32, nz_4, nz_48, nz_5, nz_60, nz_61, nz_62, nz_8, nz_99999, v_and, v_bin, v_call, v_cmp, v_cmpL, v_cons, v_get, v_int, v_loc, v_long, v_nil, v_or, v_tern, v_un, v_z, w_if, w_opf, w_put, w_retv, w_seq, w_set, w_skip, List.getElem?_cons_zero, List.getElem?_cons_succ, List.set_cons_zero, List.set_cons_succ, ee_cmp0, ee_cmp1, ee_cmp2, ee_cmp3, ee_cmp4, ee_cmp5, ee_cmpL0, ee_cmpL1, ee_cmpL2, ee_cmpL3, ee_cmpL4, ee_cmpL5, ee_tru_eb, decide_eq_true_eq, ib_i, ie_b, ie_f, ie_t, ib_l, fin_i, fin_l, fin_v, fin_z, fin_a, fin_n, ee_b_0, ee_fld0, ee_fld1, ee_fld2, ee_fld3, bi_0, bi_1, bi_2, bi_3, bi_4, bi_5, bi_6, bi_7, bi_8, bi_9, bi_10, bl_20, bl_21, bl_22, bl_23, bl_24, bl_25, bl_26, bl_48, bl_49, un_0, un_1, un_2, un_3, if_true, if_false, ite_true, ite_false, Bool.false_eq_true, Bool.not_eq_false, decide_not, Bool.not_not, reduceCtorEq, st_i, st_l, st_r, st_n, ee_noL, ee_noL.eq_1, List.length_cons, List.length_nil, Nat.reduceAdd, Nat.reduceLT, Nat.zero_add, and_true, true_and, and_self, fin_ite, pu_0, pu_1, pu_3, sto_0, el_0, Bool.not_eq_true, decide_eq_false_iff_not, Bool.decide_eq_true, Bool.decide_eq_false, decide_true, decide_false, Bool.not_true, Bool.not_false, Bool.and_self, Bool.and_true, Bool.and_false, Bool.true_and, Bool.false_and, Bool.or_true, Bool.or_false, Bool.true_or, Bool.false_or, if_true, if_false, Bool.false_eq_true, ix_0, ix_1, ix_10, ix_2, ix_3, ix_32, ix_4, ix_48, ix_5, ix_60, ix_61, ix_62, ix_8, ix_99999, tc_0, tc_1, tc_10, tc_2, tc_3, tc_32, tc_4, tc_48, tc_5, tc_60, tc_61, tc_62, tc_8, tc_99999, mz_0, mz_1, mz_a, rvs, j_s, j_a, wI_at, Nat.reduceEqDiff, zero_ne_one_n, one_ne_zero_n]
            · rw [sg] at si
              rw [sg, if_pos rfl] at htv
              subst htv
              by_cases z1 : f s = 60
              · have nr := fin _ rfl (Or.inl z1)
                have z1t : (f s = 60) = True := eq_true z1
                simp only [w_while, b1, b2, hy, h87, ba, c0, fi, le, si, e7, e77, ba2, z1t, nr, w_opf, be_195, k_0, k_1, k_10, k_2, k_3, k_32, k_4, k_48, k_5, k_60, k_61, k_62, k_8, k_99999, kl_0, kl_1152921504606846976, nz_1, nz_10, nz_2, nz_3, nz_32, nz_4, nz_48, nz_5, nz_60, nz_61, nz_62, nz_8, nz_99999, v_and, v_bin, v_call, v_cmp, v_cmpL, v_cons, v_get, v_int, v_loc, v_long, v_nil, v_or, v_tern, v_un, v_z, w_if, w_opf, w_put, w_retv, w_seq, w_set, w_skip, List.getElem?_cons_zero, List.getElem?_cons_succ, List.set_cons_zero, List.set_cons_succ, ee_cmp0, ee_cmp1, ee_cmp2, ee_cmp3, ee_cmp4, ee_cmp5, ee_cmpL0, ee_cmpL1, ee_cmpL2, ee_cmpL3, ee_cmpL4, ee_cmpL5, ee_tru_eb, decide_eq_true_eq, ib_i, ie_b, ie_f, ie_t, ib_l, fin_i, fin_l, fin_v, fin_z, fin_a, fin_n, ee_b_0, ee_fld0, ee_fld1, ee_fld2, ee_fld3, bi_0, bi_1, bi_2, bi_3, bi_4, bi_5, bi_6, bi_7, bi_8, bi_9, bi_10, bl_20, bl_21, bl_22, bl_23, bl_24, bl_25, bl_26, bl_48, bl_49, un_0, un_1, un_2, un_3, if_true, if_false, ite_true, ite_false, Bool.false_eq_true, Bool.not_eq_false, decide_not, Bool.not_not, reduceCtorEq, st_i, st_l, st_r, st_n, ee_noL, ee_noL.eq_1, List.length_cons, List.length_nil, Nat.reduceAdd, Nat.reduceLT, Nat.zero_add, and_true, true_and, and_self, fin_ite, pu_0, pu_1, pu_3, sto_0, el_0, Bool.not_eq_true, decide_eq_false_iff_not, Bool.decide_eq_true, Bool.decide_eq_false, decide_true, decide_false, Bool.not_true, Bool.not_false, Bool.and_self, Bool.and_true, Bool.and_false, Bool.true_and, Bool.false_and, Bool.or_true, Bool.or_false, Bool.true_or, Bool.false_or, if_true, if_false, Bool.false_eq_true, ix_0, ix_1, ix_10, ix_2, ix_3, ix_32, ix_4, ix_48, ix_5, ix_60, ix_61, ix_62, ix_8, ix_99999, tc_0, tc_1, tc_10, tc_2, tc_3, tc_32, tc_4, tc_48, tc_5, tc_60, tc_61, tc_62, tc_8, tc_99999, mz_0, mz_1, mz_a, rvs, j_s, j_a, wI_at, Nat.reduceEqDiff, zero_ne_one_n, one_ne_zero_n]
              · by_cases z2 : f s = 62
                · have nr := fin _ rfl (Or.inr z2)
                  have z2t : (f s = 62) = True := eq_true z2
                  simp only [w_while, b1, b2, hy, h87, ba, c0, fi, le, si, e7, e77, ba2, z1, z2t, nr, w_opf, be_195, k_0, k_1, k_10, k_2, k_3, k_32, k_4, k_48, k_5, k_60, k_61, k_62, k_8, k_99999, kl_0, kl_1152921504606846976, nz_1, nz_10, nz_2, nz_3, nz_32, nz_4, nz_48, nz_5, nz_60, nz_61, nz_62, nz_8, nz_99999, v_and, v_bin, v_call, v_cmp, v_cmpL, v_cons, v_get, v_int, v_loc, v_long, v_nil, v_or, v_tern, v_un, v_z, w_if, w_opf, w_put, w_retv, w_seq, w_set, w_skip, List.getElem?_cons_zero, List.getElem?_cons_succ, List.set_cons_zero, List.set_cons_succ, ee_cmp0, ee_cmp1, ee_cmp2, ee_cmp3, ee_cmp4, ee_cmp5, ee_cmpL0, ee_cmpL1, ee_cmpL2, ee_cmpL3, ee_cmpL4, ee_cmpL5, ee_tru_eb, decide_eq_true_eq, ib_i, ie_b, ie_f, ie_t, ib_l, fin_i, fin_l, fin_v, fin_z, fin_a, fin_n, ee_b_0, ee_fld0, ee_fld1, ee_fld2, ee_fld3, bi_0, bi_1, bi_2, bi_3, bi_4, bi_5, bi_6, bi_7, bi_8, bi_9, bi_10, bl_20, bl_21, bl_22, bl_23, bl_24, bl_25, bl_26, bl_48, bl_49, un_0, un_1, un_2, un_3, if_true, if_false, ite_true, ite_false, Bool.false_eq_true, Bool.not_eq_false, decide_not, Bool.not_not, reduceCtorEq, st_i, st_l, st_r, st_n, ee_noL, ee_noL.eq_1, List.length_cons, List.length_nil, Nat.reduceAdd, Nat.reduceLT, Nat.zero_add, and_true, true_and, and_self, fin_ite, pu_0, pu_1, pu_3, sto_0, el_0, Bool.not_eq_true, decide_eq_false_iff_not, Bool.decide_eq_true, Bool.decide_eq_false, decide_true, decide_false, Bool.not_true, Bool.not_false, Bool.and_self, Bool.and_true, Bool.and_false, Bool.true_and, Bool.false_and, Bool.or_true, Bool.or_false, Bool.true_or, Bool.false_or, if_true, if_false, Bool.false_eq_true, ix_0, ix_1, ix_10, ix_2, ix_3, ix_32, ix_4, ix_48, ix_5, ix_60, ix_61, ix_62, ix_8, ix_99999, tc_0, tc_1, tc_10, tc_2, tc_3, tc_32, tc_4, tc_48, tc_5, tc_60, tc_61, tc_62, tc_8, tc_99999, mz_0, mz_1, mz_a, rvs, j_s, j_a, wI_at, Nat.reduceEqDiff, zero_ne_one_n, one_ne_zero_n]
                · simp only [w_while, b1, b2, hy, h87, ba, c0, fi, le, si, e7, z1, z2, w_opf, be_195, k_0, k_1, k_10, k_2, k_3, k_32, k_4, k_48, k_5, k_60, k_61, k_62, k_8, k_99999, kl_0, kl_1152921504606846976, nz_1, nz_10, nz_2, nz_3, nz_32, nz_4, nz_48, nz_5, nz_60, nz_61, nz_62, nz_8, nz_99999, v_and, v_bin, v_call, v_cmp, v_cmpL, v_cons, v_get, v_int, v_loc, v_long, v_nil, v_or, v_tern, v_un, v_z, w_if, w_opf, w_put, w_retv, w_seq, w_set, w_skip, List.getElem?_cons_zero, List.getElem?_cons_succ, List.set_cons_zero, List.set_cons_succ, ee_cmp0, ee_cmp1, ee_cmp2, ee_cmp3, ee_cmp4, ee_cmp5, ee_cmpL0, ee_cmpL1, ee_cmpL2, ee_cmpL3, ee_cmpL4, ee_cmpL5, ee_tru_eb, decide_eq_true_eq, ib_i, ie_b, ie_f, ie_t, ib_l, fin_i, fin_l, fin_v, fin_z, fin_a, fin_n, ee_b_0, ee_fld0, ee_fld1, ee_fld2, ee_fld3, bi_0, bi_1, bi_2, bi_3, bi_4, bi_5, bi_6, bi_7, bi_8, bi_9, bi_10, bl_20, bl_21, bl_22, bl_23, bl_24, bl_25, bl_26, bl_48, bl_49, un_0, un_1, un_2, un_3, if_true, if_false, ite_true, ite_false, Bool.false_eq_true, Bool.not_eq_false, decide_not, Bool.not_not, reduceCtorEq, st_i, st_l, st_r, st_n, ee_noL, ee_noL.eq_1, List.length_cons, List.length_nil, Nat.reduceAdd, Nat.reduceLT, Nat.zero_add, and_true, true_and, and_self, fin_ite, pu_0, pu_1, pu_3, sto_0, el_0, Bool.not_eq_true, decide_eq_false_iff_not, Bool.decide_eq_true, Bool.decide_eq_false, decide_true, decide_false, Bool.not_true, Bool.not_false, Bool.and_self, Bool.and_true, Bool.and_false, Bool.true_and, Bool.false_and, Bool.or_true, Bool.or_false, Bool.true_or, Bool.false_or, if_true, if_false, Bool.false_eq_true, ix_0, ix_1, ix_10, ix_2, ix_3, ix_32, ix_4, ix_48, ix_5, ix_60, ix_61, ix_62, ix_8, ix_99999, tc_0, tc_1, tc_10, tc_2, tc_3, tc_32, tc_4, tc_48, tc_5, tc_60, tc_61, tc_62, tc_8, tc_99999, mz_0, mz_1, mz_a, rvs, j_s, j_a, wI_at, Nat.reduceEqDiff, zero_ne_one_n, one_ne_zero_n]
          · rw [wI_at, if_neg (by omega), wI_at, if_neg (by omega)]; exact h88
          · rw [ht, wI_at, if_pos ⟨rfl, rfl⟩]
          · rw [wI_at, if_neg (by omega), wI_at, if_pos ⟨rfl, rfl⟩]; exact htv
  · rw [fb_m1 sn] at ba
    have se : s = n := by omega
    have ht : tok f n s = (39, 0, n, n) := by unfold tok; rw [if_pos (by omega)]
    have c0 : (-1 : Int32) < 0 := by decide
    refine ⟨ee_wI y 236 9 0, ?_, ⟨s2, ?_, ?_, Or.inl ⟨by omega, by rw [wI_at, if_pos ⟨rfl, rfl⟩]⟩⟩, chk_I ⟨rfl, by omega, by omega⟩ hc8⟩
    · simp only [w_while, b1, b2, hy, h87, ba, c0, be_195, k_0, k_1, k_10, k_2, k_3, k_32, k_4, k_48, k_5, k_60, k_61, k_62, k_8, k_99999, kl_0, kl_1152921504606846976, nz_1, nz_10, nz_2, nz_3, nz_32, nz_4, nz_48, nz_5, nz_60, nz_61, nz_62, nz_8, nz_99999, v_and, v_bin, v_call, v_cmp, v_cmpL, v_cons, v_get, v_int, v_loc, v_long, v_nil, v_or, v_tern, v_un, v_z, w_if, w_opf, w_put, w_retv, w_seq, w_set, w_skip, List.getElem?_cons_zero, List.getElem?_cons_succ, List.set_cons_zero, List.set_cons_succ, ee_cmp0, ee_cmp1, ee_cmp2, ee_cmp3, ee_cmp4, ee_cmp5, ee_cmpL0, ee_cmpL1, ee_cmpL2, ee_cmpL3, ee_cmpL4, ee_cmpL5, ee_tru_eb, decide_eq_true_eq, ib_i, ie_b, ie_f, ie_t, ib_l, fin_i, fin_l, fin_v, fin_z, fin_a, fin_n, ee_b_0, ee_fld0, ee_fld1, ee_fld2, ee_fld3, bi_0, bi_1, bi_2, bi_3, bi_4, bi_5, bi_6, bi_7, bi_8, bi_9, bi_10, bl_20, bl_21, bl_22, bl_23, bl_24, bl_25, bl_26, bl_48, bl_49, un_0, un_1, un_2, un_3, if_true, if_false, ite_true, ite_false, Bool.false_eq_true, Bool.not_eq_false, decide_not, Bool.not_not, reduceCtorEq, st_i, st_l, st_r, st_n, ee_noL, ee_noL.eq_1, List.length_cons, List.length_nil, Nat.reduceAdd, Nat.reduceLT, Nat.zero_add, and_true, true_and, and_self, fin_ite, pu_0, pu_1, pu_3, sto_0, el_0, Bool.not_eq_true, decide_eq_false_iff_not, Bool.decide_eq_true, Bool.decide_eq_false, decide_true, decide_false, Bool.not_true, Bool.not_false, Bool.and_self, Bool.and_true, Bool.and_false, Bool.true_and, Bool.false_and, Bool.or_true, Bool.or_false, Bool.true_or, Bool.false_or, if_true, if_false, Bool.false_eq_true, ix_0, ix_1, ix_10, ix_2, ix_3, ix_32, ix_4, ix_48, ix_5, ix_60, ix_61, ix_62, ix_8, ix_99999, tc_0, tc_1, tc_10, tc_2, tc_3, tc_32, tc_4, tc_48, tc_5, tc_60, tc_61, tc_62, tc_8, tc_99999, mz_0, mz_1, mz_a, rvs, j_s, j_a, wI_at, Nat.reduceEqDiff, zero_ne_one_n, one_ne_zero_n]
    · rw [wI_at, if_neg (by omega)]; exact h88
    · rw [ht, wI_at, if_neg (by omega), h87, se]
theorem sgk_sgs {x : Int32} (h : sgs x = false) : sgk x = 40 := by
  unfold sgs at h
  simp only [Bool.or_eq_false_iff, decide_eq_false_iff_not] at h
  unfold sgk
  obtain ⟨⟨⟨⟨⟨⟨⟨⟨⟨⟨⟨a1, a2⟩, a3⟩, a4⟩, a5⟩, a6⟩, a7⟩, a8⟩, a9⟩, a10⟩, a11⟩, a12⟩ := h
  rw [if_neg a1, if_neg a2, if_neg a3, if_neg a4, if_neg a5, if_neg a6, if_neg a7, if_neg a8, if_neg a9, if_neg a10, if_neg a12]
theorem sgk_25 (x : Int32) : x = 60 ↔ sgk x = 25 := by
  unfold sgk
  constructor
  · rintro rfl; decide
  · intro h
    (repeat' split at h) <;> first | assumption | omega
theorem sgk_27 (x : Int32) : x = 62 ↔ sgk x = 27 := by
  unfold sgk
  constructor
  · rintro rfl; decide
  · intro h
    (repeat' split at h) <;> first | assumption | omega
theorem sgk_29 (x : Int32) : x = 61 ↔ sgk x = 29 := by
  unfold sgk
  constructor
  · rintro rfl; decide
  · intro h
    (repeat' split at h) <;> first | assumption | omega
theorem sgk_30 (x : Int32) : x = 35 ↔ sgk x = 30 := by
  unfold sgk
  constructor
  · rintro rfl; decide
  · intro h
    (repeat' split at h) <;> first | assumption | omega
theorem sgk_31 (x : Int32) : x = 43 ↔ sgk x = 31 := by
  unfold sgk
  constructor
  · rintro rfl; decide
  · intro h
    (repeat' split at h) <;> first | assumption | omega
theorem sgk_32 (x : Int32) : x = 45 ↔ sgk x = 32 := by
  unfold sgk
  constructor
  · rintro rfl; decide
  · intro h
    (repeat' split at h) <;> first | assumption | omega
theorem sgk_33 (x : Int32) : x = 42 ↔ sgk x = 33 := by
  unfold sgk
  constructor
  · rintro rfl; decide
  · intro h
    (repeat' split at h) <;> first | assumption | omega
theorem sgk_34 (x : Int32) : x = 47 ↔ sgk x = 34 := by
  unfold sgk
  constructor
  · rintro rfl; decide
  · intro h
    (repeat' split at h) <;> first | assumption | omega
theorem sgk_35 (x : Int32) : x = 40 ↔ sgk x = 35 := by
  unfold sgk
  constructor
  · rintro rfl; decide
  · intro h
    (repeat' split at h) <;> first | assumption | omega
theorem sgk_36 (x : Int32) : x = 41 ↔ sgk x = 36 := by
  unfold sgk
  constructor
  · rintro rfl; decide
  · intro h
    (repeat' split at h) <;> first | assumption | omega
theorem sgk_37 (x : Int32) : x = 59 ↔ sgk x = 37 := by
  unfold sgk
  constructor
  · rintro rfl; decide
  · intro h
    (repeat' split at h) <;> first | assumption | omega
/-- the token's code says its kind -/
theorem mt_code {c : Int32} {k : Nat} (h : ∀ x, x = c ↔ sgk x = k) (hk : k ≠ 26 ∧ k ≠ 28 ∧ 25 ≤ k ∧ k ≤ 37) (hc : ¬ (0 : Int32) = c ∧ ¬ (1 : Int32) = c ∧ ¬ (2 : Int32) = c ∧ ¬ (3 : Int32) = c ∧ ¬ (4 : Int32) = c ∧ ¬ (5 : Int32) = c) (hM : MTK w f n s) : (w.1 236 9 = c) ↔ (tok f n s).1 = k := by
  obtain ⟨c0, c1, c2, c3, c4, c5⟩ := hc
  obtain ⟨-, -, -, h1 | ⟨h0, h1, h2, -⟩ | ⟨h0, h1, h2, h3, -⟩ | ⟨h0, h1, h2, h3, h4⟩ | ⟨h0, h1, h2, h3, h4⟩⟩ := hM
  · have e : tok f n s = (39, 0, n, n) := by unfold tok; rw [if_pos h1.1]
    rw [h1.2, e]
    exact ⟨fun z => absurd z c0, fun z => by have z : 39 = k := z; omega⟩
  · have e : tok f n s = (wnum f s (rnq isLi f n s), 0, s, rnq isLi f n s) := by unfold tok; rw [if_neg (by omega), if_pos h1]
    have b := wnum_b f s (rnq isLi f n s)
    rw [h2, e]
    exact ⟨fun z => absurd z c2, fun z => by have z : wnum f s (rnq isLi f n s) = k := z; omega⟩
  · have e : tok f n s = (38, nvk f s (rnq isDi f n s - s), s, rnq isDi f n s) := by unfold tok; rw [if_neg (by omega), if_neg (by rw [h1]; decide), if_pos h2]
    rw [h3, e]
    exact ⟨fun z => absurd z c1, fun z => by have z : 38 = k := z; omega⟩
  · have e : tok f n s = ((if f s = 60 then 26 else 28), 0, s, s + 2) := by unfold tok; rw [if_neg (by omega), if_neg (by rw [h1]; decide), if_neg (by rw [h2]; decide), if_pos h3]
    rw [h4, e]
    refine ⟨fun z => ?_, fun z => ?_⟩
    · split at z
      · exact absurd z c4
      · exact absurd z c5
    · have z : (if f s = 60 then 26 else 28) = k := z
      split at z <;> omega
  · have e : tok f n s = (sgk (f s), 0, s, s + 1) := by unfold tok; rw [if_neg (by omega), if_neg (by rw [h1]; decide), if_neg (by rw [h2]; decide), if_neg h3]
    rw [h4, e]
    cases g : sgs (f s)
    · rw [if_neg (by decide)]
      have := sgk_sgs g
      exact ⟨fun z => absurd z c3, fun z => by have z : sgk (f s) = k := z; omega⟩
    · rw [if_pos rfl]
      exact h (f s)
theorem mt_small {k : Nat} {c : Int32} (hkc : (k = 39 ∧ c = 0) ∨ (k = 38 ∧ c = 1) ∨ (k = 26 ∧ c = 4) ∨ (k = 28 ∧ c = 5)) (hM : MTK w f n s) : (w.1 236 9 = c) ↔ (tok f n s).1 = k := by
  obtain ⟨-, -, -, h1 | ⟨h0, h1, h2, -⟩ | ⟨h0, h1, h2, h3, -⟩ | ⟨h0, h1, h2, h3, h4⟩ | ⟨h0, h1, h2, h3, h4⟩⟩ := hM
  · have e : tok f n s = (39, 0, n, n) := by unfold tok; rw [if_pos h1.1]
    rw [h1.2, e]
    show (0 : Int32) = c ↔ 39 = k
    rcases hkc with ⟨rfl, rfl⟩ | ⟨rfl, rfl⟩ | ⟨rfl, rfl⟩ | ⟨rfl, rfl⟩ <;> decide
  · have e : tok f n s = (wnum f s (rnq isLi f n s), 0, s, rnq isLi f n s) := by unfold tok; rw [if_neg (by omega), if_pos h1]
    have b := wnum_b f s (rnq isLi f n s)
    rw [h2, e]
    refine ⟨fun z => ?_, fun z => ?_⟩
    · rcases hkc with ⟨rfl, rfl⟩ | ⟨rfl, rfl⟩ | ⟨rfl, rfl⟩ | ⟨rfl, rfl⟩ <;> exact absurd z (by decide)
    · have z : wnum f s (rnq isLi f n s) = k := z
      omega
  · have e : tok f n s = (38, nvk f s (rnq isDi f n s - s), s, rnq isDi f n s) := by unfold tok; rw [if_neg (by omega), if_neg (by rw [h1]; decide), if_pos h2]
    rw [h3, e]
    show (1 : Int32) = c ↔ 38 = k
    rcases hkc with ⟨rfl, rfl⟩ | ⟨rfl, rfl⟩ | ⟨rfl, rfl⟩ | ⟨rfl, rfl⟩ <;> decide
  · have e : tok f n s = ((if f s = 60 then 26 else 28), 0, s, s + 2) := by unfold tok; rw [if_neg (by omega), if_neg (by rw [h1]; decide), if_neg (by rw [h2]; decide), if_pos h3]
    rw [h4, e]
    show ((if f s = 60 then 4 else 5) = c) ↔ (if f s = 60 then 26 else 28) = k
    by_cases y : f s = 60
    · rw [if_pos y, if_pos y]
      rcases hkc with ⟨rfl, rfl⟩ | ⟨rfl, rfl⟩ | ⟨rfl, rfl⟩ | ⟨rfl, rfl⟩ <;> decide
    · rw [if_neg y, if_neg y]
      rcases hkc with ⟨rfl, rfl⟩ | ⟨rfl, rfl⟩ | ⟨rfl, rfl⟩ | ⟨rfl, rfl⟩ <;> decide
  · have e : tok f n s = (sgk (f s), 0, s, s + 1) := by unfold tok; rw [if_neg (by omega), if_neg (by rw [h1]; decide), if_neg (by rw [h2]; decide), if_neg h3]
    have b := sgk_b (f s)
    rw [h4, e]
    have nk : ¬ sgk (f s) = k := by
      intro z
      rcases hkc with ⟨rfl, -⟩ | ⟨rfl, -⟩ | ⟨rfl, -⟩ | ⟨rfl, -⟩
      · omega
      · omega
      · unfold sgk at z; (repeat' split at z) <;> omega
      · unfold sgk at z; (repeat' split at z) <;> omega
    refine ⟨fun z => ?_, fun z => absurd z nk⟩
    exfalso
    cases g : sgs (f s)
    · rw [g, if_neg (by decide)] at z
      rcases hkc with ⟨rfl, rfl⟩ | ⟨rfl, rfl⟩ | ⟨rfl, rfl⟩ | ⟨rfl, rfl⟩ <;> exact absurd z (by decide)
    · rw [g, if_pos rfl] at z
      rw [z] at g
      rcases hkc with ⟨rfl, rfl⟩ | ⟨rfl, rfl⟩ | ⟨rfl, rfl⟩ | ⟨rfl, rfl⟩ <;> exact absurd g (by decide)
theorem mt_num (hM : MTK w f n s) (hk : (tok f n s).1 = 38) : ∃ u, w.1 236 10 = Int32.ofNat u ∧ u ≤ 1000009 ∧ ((u ≤ 9999 ∧ (tok f n s).2.1 = u) ∨ (9999 < u ∧ (tok f n s).2.1 = 10000)) := by
  have h9 := (mt_small (c := 1) (k := 38) (Or.inr (Or.inl ⟨rfl, rfl⟩)) hM).2 hk
  obtain ⟨hs, -, -, h1 | ⟨h0, h1, h2, -⟩ | ⟨h0, h1, h2, h3, h5⟩ | ⟨h0, h1, h2, h3, h4⟩ | ⟨h0, h1, h2, h3, h4⟩⟩ := hM
  · rw [h1.2] at h9; exact absurd h9 (by decide)
  · rw [h2] at h9; exact absurd h9 (by decide)
  · have e : tok f n s = (38, nvk f s (rnq isDi f n s - s), s, rnq isDi f n s) := by unfold tok; rw [if_neg (by omega), if_neg (by rw [h1]; decide), if_pos h2]
    obtain ⟨e1, e2, e3, e4⟩ := rnq_spec isDi f hs
    obtain ⟨b1, b2⟩ := mnm_nvk (f := f) (p := s) (rnq isDi f n s - s) (fun j hj => (dg_b (e3 (s + j) (by omega) (by omega))).1)
    exact ⟨_, h5, b1, by rw [e]; exact b2⟩
  · have e : tok f n s = ((if f s = 60 then 26 else 28), 0, s, s + 2) := by unfold tok; rw [if_neg (by omega), if_neg (by rw [h1]; decide), if_neg (by rw [h2]; decide), if_pos h3]
    rw [e] at hk
    have hk : (if f s = 60 then 26 else 28) = 38 := hk
    split at hk <;> omega
  · have e : tok f n s = (sgk (f s), 0, s, s + 1) := by unfold tok; rw [if_neg (by omega), if_neg (by rw [h1]; decide), if_neg (by rw [h2]; decide), if_neg h3]
    have b := sgk_b (f s)
    rw [e] at hk
    have hk : sgk (f s) = 38 := hk
    omega
/-- words -/
theorem mt_word (hM : MTK w f n s) : (w.1 236 9 = 2 ∧ s < n ∧ isLi (f s) = true ∧ (tok f n s).1 = wnum f s (rnq isLi f n s) ∧ (tok f n s).2.2.2 = rnq isLi f n s ∧ ∀ k, k < 25 → k ≠ 23 → ((w.2.1 236 11 = Int64.ofNat (wcn k)) ↔ (tok f n s).1 = k)) ∨ (¬ w.1 236 9 = 2 ∧ 25 ≤ (tok f n s).1) := by
  have hM0 := hM
  obtain ⟨hs, -, -, h1 | ⟨h0, h1, h2, h5⟩ | ⟨h0, h1, h2, h3, h5⟩ | ⟨h0, h1, h2, h3, h4⟩ | ⟨h0, h1, h2, h3, h4⟩⟩ := hM
  · right
    have e : tok f n s = (39, 0, n, n) := by unfold tok; rw [if_pos h1.1]
    rw [h1.2, e]
    exact ⟨by decide, by show 25 ≤ 39; omega⟩
  · left
    have e : tok f n s = (wnum f s (rnq isLi f n s), 0, s, rnq isLi f n s) := by unfold tok; rw [if_neg (by omega), if_pos h1]
    obtain ⟨e1, e2, e3, e4⟩ := rnq_spec isLi f hs
    refine ⟨h2, h0, h1, by rw [e], by rw [e], fun k hk h23 => ?_⟩
    have wb := wv_b (f := f) (p := s) (rnq isLi f n s - s) (fun j hj => (isLi_b (e3 (s + j) (by omega) (by omega))).2.1)
    have wc := wcn_b k hk h23
    rw [h5, nL_eq (by omega) (by omega), wv_iff hk h23 (fun j j1 j2 => (isLi_b (e3 j j1 (by omega))).2) (fun j j1 j2 => (isLi_b (e3 j j1 (by omega))).1), show s + (rnq isLi f n s - s) = rnq isLi f n s by omega, wnum_iff hk, e]
  · right
    have e : tok f n s = (38, nvk f s (rnq isDi f n s - s), s, rnq isDi f n s) := by unfold tok; rw [if_neg (by omega), if_neg (by rw [h1]; decide), if_pos h2]
    rw [h3, e]
    exact ⟨by decide, by show 25 ≤ 38; omega⟩
  · right
    have e : tok f n s = ((if f s = 60 then 26 else 28), 0, s, s + 2) := by unfold tok; rw [if_neg (by omega), if_neg (by rw [h1]; decide), if_neg (by rw [h2]; decide), if_pos h3]
    rw [h4, e]
    refine ⟨?_, ?_⟩
    · split <;> decide
    · show 25 ≤ if f s = 60 then 26 else 28
      split <;> omega
  · right
    have e : tok f n s = (sgk (f s), 0, s, s + 1) := by unfold tok; rw [if_neg (by omega), if_neg (by rw [h1]; decide), if_neg (by rw [h2]; decide), if_neg h3]
    have b := sgk_b (f s)
    rw [h4, e]
    refine ⟨?_, by show 25 ≤ sgk (f s); omega⟩
    cases g : sgs (f s)
    · rw [if_neg (by decide)]; decide
    · rw [if_pos rfl]
      intro z
      rw [z] at g
      exact absurd g (by decide)
theorem m_isWord (hd : 1 ≤ d) (hM : MTK w f n s) {k : Nat} (hk : k < 25) (h23 : k ≠ 23) : ee_run ee_B P d 206 [.ref 236, .long (Int64.ofNat (wcn k))] w = some ([.int (ee_b (decide ((tok f n s).1 = k)))], w) := by
  obtain ⟨d, rfl⟩ : ∃ k, d = k + 1 := ⟨d - 1, by omega⟩
  rw [rn_206 mz_0]
  rcases mt_word hM with ⟨h1, -, -, -, -, h2⟩ | ⟨h1, h2⟩
  · have h2 := h2 k hk h23
    by_cases c : (tok f n s).1 = k
    · have cw := h2.2 c
      have ct : ((tok f n s).1 = k) = True := eq_true c
      have wt : (w.2.1 236 11 = Int64.ofNat (wcn k)) = True := eq_true cw
      simp only [h1, wt, ct, bd_206, k_2, nz_2, v_and, v_cmp, v_cmpL, v_get, v_int, v_loc, v_mat, w_ret, List.getElem?_cons_zero, List.getElem?_cons_succ, List.set_cons_zero, List.set_cons_succ, ee_cmp0, ee_cmp1, ee_cmp2, ee_cmp3, ee_cmp4, ee_cmp5, ee_cmpL0, ee_cmpL1, ee_cmpL2, ee_cmpL3, ee_cmpL4, ee_cmpL5, ee_tru_eb, decide_eq_true_eq, ib_i, ie_b, ie_f, ie_t, ib_l, fin_i, fin_l, fin_v, fin_z, fin_a, fin_n, ee_b_0, ee_fld0, ee_fld1, ee_fld2, ee_fld3, bi_0, bi_1, bi_2, bi_3, bi_4, bi_5, bi_6, bi_7, bi_8, bi_9, bi_10, bl_20, bl_21, bl_22, bl_23, bl_24, bl_25, bl_26, bl_48, bl_49, un_0, un_1, un_2, un_3, if_true, if_false, ite_true, ite_false, Bool.false_eq_true, Bool.not_eq_false, decide_not, Bool.not_not, reduceCtorEq, st_i, st_l, st_r, st_n, ee_noL, ee_noL.eq_1, List.length_cons, List.length_nil, Nat.reduceAdd, Nat.reduceLT, Nat.zero_add, and_true, true_and, and_self, fin_ite, pu_0, pu_1, pu_3, sto_0, el_0, Bool.not_eq_true, decide_eq_false_iff_not, Bool.decide_eq_true, Bool.decide_eq_false, decide_true, decide_false, Bool.not_true, Bool.not_false, Bool.and_self, Bool.and_true, Bool.and_false, Bool.true_and, Bool.false_and, Bool.or_true, Bool.or_false, Bool.true_or, Bool.false_or, if_true, if_false, Bool.false_eq_true, ix_2, tc_2, mz_0, mz_1, mz_a, rvs, j_s, j_a, wI_at, Nat.reduceEqDiff, zero_ne_one_n, one_ne_zero_n]
    · have cw : ¬ w.2.1 236 11 = Int64.ofNat (wcn k) := fun z => c (h2.1 z)
      simp only [h1, cw, c, bd_206, k_2, nz_2, v_and, v_cmp, v_cmpL, v_get, v_int, v_loc, v_mat, w_ret, List.getElem?_cons_zero, List.getElem?_cons_succ, List.set_cons_zero, List.set_cons_succ, ee_cmp0, ee_cmp1, ee_cmp2, ee_cmp3, ee_cmp4, ee_cmp5, ee_cmpL0, ee_cmpL1, ee_cmpL2, ee_cmpL3, ee_cmpL4, ee_cmpL5, ee_tru_eb, decide_eq_true_eq, ib_i, ie_b, ie_f, ie_t, ib_l, fin_i, fin_l, fin_v, fin_z, fin_a, fin_n, ee_b_0, ee_fld0, ee_fld1, ee_fld2, ee_fld3, bi_0, bi_1, bi_2, bi_3, bi_4, bi_5, bi_6, bi_7, bi_8, bi_9, bi_10, bl_20, bl_21, bl_22, bl_23, bl_24, bl_25, bl_26, bl_48, bl_49, un_0, un_1, un_2, un_3, if_true, if_false, ite_true, ite_false, Bool.false_eq_true, Bool.not_eq_false, decide_not, Bool.not_not, reduceCtorEq, st_i, st_l, st_r, st_n, ee_noL, ee_noL.eq_1, List.length_cons, List.length_nil, Nat.reduceAdd, Nat.reduceLT, Nat.zero_add, and_true, true_and, and_self, fin_ite, pu_0, pu_1, pu_3, sto_0, el_0, Bool.not_eq_true, decide_eq_false_iff_not, Bool.decide_eq_true, Bool.decide_eq_false, decide_true, decide_false, Bool.not_true, Bool.not_false, Bool.and_self, Bool.and_true, Bool.and_false, Bool.true_and, Bool.false_and, Bool.or_true, Bool.or_false, Bool.true_or, Bool.false_or, if_true, if_false, Bool.false_eq_true, ix_2, tc_2, mz_0, mz_1, mz_a, rvs, j_s, j_a, wI_at, Nat.reduceEqDiff, zero_ne_one_n, one_ne_zero_n]
  · have c : ¬ (tok f n s).1 = k := by omega
    simp only [h1, c, bd_206, k_2, nz_2, v_and, v_cmp, v_cmpL, v_get, v_int, v_loc, v_mat, w_ret, List.getElem?_cons_zero, List.getElem?_cons_succ, List.set_cons_zero, List.set_cons_succ, ee_cmp0, ee_cmp1, ee_cmp2, ee_cmp3, ee_cmp4, ee_cmp5, ee_cmpL0, ee_cmpL1, ee_cmpL2, ee_cmpL3, ee_cmpL4, ee_cmpL5, ee_tru_eb, decide_eq_true_eq, ib_i, ie_b, ie_f, ie_t, ib_l, fin_i, fin_l, fin_v, fin_z, fin_a, fin_n, ee_b_0, ee_fld0, ee_fld1, ee_fld2, ee_fld3, bi_0, bi_1, bi_2, bi_3, bi_4, bi_5, bi_6, bi_7, bi_8, bi_9, bi_10, bl_20, bl_21, bl_22, bl_23, bl_24, bl_25, bl_26, bl_48, bl_49, un_0, un_1, un_2, un_3, if_true, if_false, ite_true, ite_false, Bool.false_eq_true, Bool.not_eq_false, decide_not, Bool.not_not, reduceCtorEq, st_i, st_l, st_r, st_n, ee_noL, ee_noL.eq_1, List.length_cons, List.length_nil, Nat.reduceAdd, Nat.reduceLT, Nat.zero_add, and_true, true_and, and_self, fin_ite, pu_0, pu_1, pu_3, sto_0, el_0, Bool.not_eq_true, decide_eq_false_iff_not, Bool.decide_eq_true, Bool.decide_eq_false, decide_true, decide_false, Bool.not_true, Bool.not_false, Bool.and_self, Bool.and_true, Bool.and_false, Bool.true_and, Bool.false_and, Bool.or_true, Bool.or_false, Bool.true_or, Bool.false_or, if_true, if_false, Bool.false_eq_true, ix_2, tc_2, mz_0, mz_1, mz_a, rvs, j_s, j_a, wI_at, Nat.reduceEqDiff, zero_ne_one_n, one_ne_zero_n]
def w2v (a b : Int32) : Int64 := (a.toInt64 <<< ((8 : Int32).toInt64 &&& 63)) ||| b.toInt64
def wnx (x : Int64) (b : Int32) : Int64 := (x <<< ((8 : Int32).toInt64 &&& 63)) ||| b.toInt64
theorem r_w2 (hd : 1 ≤ d) (a b : Int32) : ee_run ee_B P d 205 [.int a, .int b] w = some ([.long (w2v a b)], w) := by
  obtain ⟨d, rfl⟩ : ∃ k, d = k + 1 := ⟨d - 1, by omega⟩
  rw [rn_205]
  simp only [w2v, bd_205, k_8, nz_8, v_bin, v_int, v_loc, v_un, w_ret, List.getElem?_cons_zero, List.getElem?_cons_succ, List.set_cons_zero, List.set_cons_succ, ee_cmp0, ee_cmp1, ee_cmp2, ee_cmp3, ee_cmp4, ee_cmp5, ee_cmpL0, ee_cmpL1, ee_cmpL2, ee_cmpL3, ee_cmpL4, ee_cmpL5, ee_tru_eb, decide_eq_true_eq, ib_i, ie_b, ie_f, ie_t, ib_l, fin_i, fin_l, fin_v, fin_z, fin_a, fin_n, ee_b_0, ee_fld0, ee_fld1, ee_fld2, ee_fld3, bi_0, bi_1, bi_2, bi_3, bi_4, bi_5, bi_6, bi_7, bi_8, bi_9, bi_10, bl_20, bl_21, bl_22, bl_23, bl_24, bl_25, bl_26, bl_48, bl_49, un_0, un_1, un_2, un_3, if_true, if_false, ite_true, ite_false, Bool.false_eq_true, Bool.not_eq_false, decide_not, Bool.not_not, reduceCtorEq, st_i, st_l, st_r, st_n, ee_noL, ee_noL.eq_1, List.length_cons, List.length_nil, Nat.reduceAdd, Nat.reduceLT, Nat.zero_add, and_true, true_and, and_self, fin_ite, pu_0, pu_1, pu_3, sto_0, el_0, Bool.not_eq_true, decide_eq_false_iff_not, Bool.decide_eq_true, Bool.decide_eq_false, decide_true, decide_false, Bool.not_true, Bool.not_false, Bool.and_self, Bool.and_true, Bool.and_false, Bool.true_and, Bool.false_and, Bool.or_true, Bool.or_false, Bool.true_or, Bool.false_or, if_true, if_false, Bool.false_eq_true, ix_8, tc_8, mz_0, mz_1, mz_a, rvs, j_s, j_a, wI_at, Nat.reduceEqDiff, zero_ne_one_n, one_ne_zero_n]
theorem r_w3 (hd : 2 ≤ d) (a b c : Int32) : ee_run ee_B P d 204 [.int a, .int b, .int c] w = some ([.long (wnx (w2v a b) c)], w) := by
  obtain ⟨d, rfl⟩ : ∃ k, d = k + 1 := ⟨d - 1, by omega⟩
  rw [rn_204]
  simp only [r_w2 (show 1 ≤ d by omega), wnx, bd_204, k_8, nz_8, v_bin, v_call, v_cons, v_int, v_loc, v_nil, v_un, w_ret, List.getElem?_cons_zero, List.getElem?_cons_succ, List.set_cons_zero, List.set_cons_succ, ee_cmp0, ee_cmp1, ee_cmp2, ee_cmp3, ee_cmp4, ee_cmp5, ee_cmpL0, ee_cmpL1, ee_cmpL2, ee_cmpL3, ee_cmpL4, ee_cmpL5, ee_tru_eb, decide_eq_true_eq, ib_i, ie_b, ie_f, ie_t, ib_l, fin_i, fin_l, fin_v, fin_z, fin_a, fin_n, ee_b_0, ee_fld0, ee_fld1, ee_fld2, ee_fld3, bi_0, bi_1, bi_2, bi_3, bi_4, bi_5, bi_6, bi_7, bi_8, bi_9, bi_10, bl_20, bl_21, bl_22, bl_23, bl_24, bl_25, bl_26, bl_48, bl_49, un_0, un_1, un_2, un_3, if_true, if_false, ite_true, ite_false, Bool.false_eq_true, Bool.not_eq_false, decide_not, Bool.not_not, reduceCtorEq, st_i, st_l, st_r, st_n, ee_noL, ee_noL.eq_1, List.length_cons, List.length_nil, Nat.reduceAdd, Nat.reduceLT, Nat.zero_add, and_true, true_and, and_self, fin_ite, pu_0, pu_1, pu_3, sto_0, el_0, Bool.not_eq_true, decide_eq_false_iff_not, Bool.decide_eq_true, Bool.decide_eq_false, decide_true, decide_false, Bool.not_true, Bool.not_false, Bool.and_self, Bool.and_true, Bool.and_false, Bool.true_and, Bool.false_and, Bool.or_true, Bool.or_false, Bool.true_or, Bool.false_or, if_true, if_false, Bool.false_eq_true, ix_8, tc_8, mz_0, mz_1, mz_a, rvs, j_s, j_a, wI_at, Nat.reduceEqDiff, zero_ne_one_n, one_ne_zero_n]
theorem r_w4 (hd : 3 ≤ d) (a b c e : Int32) : ee_run ee_B P d 203 [.int a, .int b, .int c, .int e] w = some ([.long (wnx (wnx (w2v a b) c) e)], w) := by
  obtain ⟨d, rfl⟩ : ∃ k, d = k + 1 := ⟨d - 1, by omega⟩
  rw [rn_203]
  simp only [r_w3 (show 2 ≤ d by omega), wnx, bd_203, k_8, nz_8, v_bin, v_call, v_cons, v_int, v_loc, v_nil, v_un, w_ret, List.getElem?_cons_zero, List.getElem?_cons_succ, List.set_cons_zero, List.set_cons_succ, ee_cmp0, ee_cmp1, ee_cmp2, ee_cmp3, ee_cmp4, ee_cmp5, ee_cmpL0, ee_cmpL1, ee_cmpL2, ee_cmpL3, ee_cmpL4, ee_cmpL5, ee_tru_eb, decide_eq_true_eq, ib_i, ie_b, ie_f, ie_t, ib_l, fin_i, fin_l, fin_v, fin_z, fin_a, fin_n, ee_b_0, ee_fld0, ee_fld1, ee_fld2, ee_fld3, bi_0, bi_1, bi_2, bi_3, bi_4, bi_5, bi_6, bi_7, bi_8, bi_9, bi_10, bl_20, bl_21, bl_22, bl_23, bl_24, bl_25, bl_26, bl_48, bl_49, un_0, un_1, un_2, un_3, if_true, if_false, ite_true, ite_false, Bool.false_eq_true, Bool.not_eq_false, decide_not, Bool.not_not, reduceCtorEq, st_i, st_l, st_r, st_n, ee_noL, ee_noL.eq_1, List.length_cons, List.length_nil, Nat.reduceAdd, Nat.reduceLT, Nat.zero_add, and_true, true_and, and_self, fin_ite, pu_0, pu_1, pu_3, sto_0, el_0, Bool.not_eq_true, decide_eq_false_iff_not, Bool.decide_eq_true, Bool.decide_eq_false, decide_true, decide_false, Bool.not_true, Bool.not_false, Bool.and_self, Bool.and_true, Bool.and_false, Bool.true_and, Bool.false_and, Bool.or_true, Bool.or_false, Bool.true_or, Bool.false_or, if_true, if_false, Bool.false_eq_true, ix_8, tc_8, mz_0, mz_1, mz_a, rvs, j_s, j_a, wI_at, Nat.reduceEqDiff, zero_ne_one_n, one_ne_zero_n]
theorem r_w5 (hd : 4 ≤ d) (a b c e g : Int32) : ee_run ee_B P d 202 [.int a, .int b, .int c, .int e, .int g] w = some ([.long (wnx (wnx (wnx (w2v a b) c) e) g)], w) := by
  obtain ⟨d, rfl⟩ : ∃ k, d = k + 1 := ⟨d - 1, by omega⟩
  rw [rn_202]
  simp only [r_w4 (show 3 ≤ d by omega), wnx, bd_202, k_8, nz_8, v_bin, v_call, v_cons, v_int, v_loc, v_nil, v_un, w_ret, List.getElem?_cons_zero, List.getElem?_cons_succ, List.set_cons_zero, List.set_cons_succ, ee_cmp0, ee_cmp1, ee_cmp2, ee_cmp3, ee_cmp4, ee_cmp5, ee_cmpL0, ee_cmpL1, ee_cmpL2, ee_cmpL3, ee_cmpL4, ee_cmpL5, ee_tru_eb, decide_eq_true_eq, ib_i, ie_b, ie_f, ie_t, ib_l, fin_i, fin_l, fin_v, fin_z, fin_a, fin_n, ee_b_0, ee_fld0, ee_fld1, ee_fld2, ee_fld3, bi_0, bi_1, bi_2, bi_3, bi_4, bi_5, bi_6, bi_7, bi_8, bi_9, bi_10, bl_20, bl_21, bl_22, bl_23, bl_24, bl_25, bl_26, bl_48, bl_49, un_0, un_1, un_2, un_3, if_true, if_false, ite_true, ite_false, Bool.false_eq_true, Bool.not_eq_false, decide_not, Bool.not_not, reduceCtorEq, st_i, st_l, st_r, st_n, ee_noL, ee_noL.eq_1, List.length_cons, List.length_nil, Nat.reduceAdd, Nat.reduceLT, Nat.zero_add, and_true, true_and, and_self, fin_ite, pu_0, pu_1, pu_3, sto_0, el_0, Bool.not_eq_true, decide_eq_false_iff_not, Bool.decide_eq_true, Bool.decide_eq_false, decide_true, decide_false, Bool.not_true, Bool.not_false, Bool.and_self, Bool.and_true, Bool.and_false, Bool.true_and, Bool.false_and, Bool.or_true, Bool.or_false, Bool.true_or, Bool.false_or, if_true, if_false, Bool.false_eq_true, ix_8, tc_8, mz_0, mz_1, mz_a, rvs, j_s, j_a, wI_at, Nat.reduceEqDiff, zero_ne_one_n, one_ne_zero_n]
theorem r_w6 (hd : 5 ≤ d) (a b c e g h : Int32) : ee_run ee_B P d 207 [.int a, .int b, .int c, .int e, .int g, .int h] w = some ([.long (wnx (wnx (wnx (wnx (w2v a b) c) e) g) h)], w) := by
  obtain ⟨d, rfl⟩ : ∃ k, d = k + 1 := ⟨d - 1, by omega⟩
  rw [rn_207]
  simp only [r_w5 (show 4 ≤ d by omega), wnx, bd_207, k_8, nz_8, v_bin, v_call, v_cons, v_int, v_loc, v_nil, v_un, w_ret, List.getElem?_cons_zero, List.getElem?_cons_succ, List.set_cons_zero, List.set_cons_succ, ee_cmp0, ee_cmp1, ee_cmp2, ee_cmp3, ee_cmp4, ee_cmp5, ee_cmpL0, ee_cmpL1, ee_cmpL2, ee_cmpL3, ee_cmpL4, ee_cmpL5, ee_tru_eb, decide_eq_true_eq, ib_i, ie_b, ie_f, ie_t, ib_l, fin_i, fin_l, fin_v, fin_z, fin_a, fin_n, ee_b_0, ee_fld0, ee_fld1, ee_fld2, ee_fld3, bi_0, bi_1, bi_2, bi_3, bi_4, bi_5, bi_6, bi_7, bi_8, bi_9, bi_10, bl_20, bl_21, bl_22, bl_23, bl_24, bl_25, bl_26, bl_48, bl_49, un_0, un_1, un_2, un_3, if_true, if_false, ite_true, ite_false, Bool.false_eq_true, Bool.not_eq_false, decide_not, Bool.not_not, reduceCtorEq, st_i, st_l, st_r, st_n, ee_noL, ee_noL.eq_1, List.length_cons, List.length_nil, Nat.reduceAdd, Nat.reduceLT, Nat.zero_add, and_true, true_and, and_self, fin_ite, pu_0, pu_1, pu_3, sto_0, el_0, Bool.not_eq_true, decide_eq_false_iff_not, Bool.decide_eq_true, Bool.decide_eq_false, decide_true, decide_false, Bool.not_true, Bool.not_false, Bool.and_self, Bool.and_true, Bool.and_false, Bool.true_and, Bool.false_and, Bool.or_true, Bool.or_false, Bool.true_or, Bool.false_or, if_true, if_false, Bool.false_eq_true, ix_8, tc_8, mz_0, mz_1, mz_a, rvs, j_s, j_a, wI_at, Nat.reduceEqDiff, zero_ne_one_n, one_ne_zero_n]
theorem wc_0 (hd : 4 ≤ d) : ee_run ee_B P d 202 [.int 112, .int 117, .int 108, .int 108, .int 115] w = some ([.long (Int64.ofNat (wcn 0))], w) := (r_w5 hd 112 117 108 108 115).trans (congrArg (fun x => some ([Value.long x], w)) (by decide +kernel))
theorem wc_1 (hd : 5 ≤ d) : ee_run ee_B P d 207 [.int 108, .int 101, .int 97, .int 114, .int 110, .int 115] w = some ([.long (Int64.ofNat (wcn 1))], w) := (r_w6 hd 108 101 97 114 110 115).trans (congrArg (fun x => some ([Value.long x], w)) (by decide +kernel))
theorem wc_2 (hd : 5 ≤ d) : ee_run ee_B P d 207 [.int 119, .int 111, .int 98, .int 98, .int 108, .int 101] w = some ([.long (Int64.ofNat (wcn 2))], w) := (r_w6 hd 119 111 98 98 108 101).trans (congrArg (fun x => some ([Value.long x], w)) (by decide +kernel))
theorem wc_3 (hd : 3 ≤ d) : ee_run ee_B P d 203 [.int 108, .int 111, .int 115, .int 101] w = some ([.long (Int64.ofNat (wcn 3))], w) := (r_w4 hd 108 111 115 101).trans (congrArg (fun x => some ([Value.long x], w)) (by decide +kernel))
theorem wc_4 (hd : 3 ≤ d) : ee_run ee_B P d 203 [.int 115, .int 101, .int 101, .int 107] w = some ([.long (Int64.ofNat (wcn 4))], w) := (r_w4 hd 115 101 101 107).trans (congrArg (fun x => some ([Value.long x], w)) (by decide +kernel))
theorem wc_5 (hd : 4 ≤ d) : ee_run ee_B P d 202 [.int 115, .int 104, .int 97, .int 107, .int 101] w = some ([.long (Int64.ofNat (wcn 5))], w) := (r_w5 hd 115 104 97 107 101).trans (congrArg (fun x => some ([Value.long x], w)) (by decide +kernel))
theorem wc_6 (hd : 4 ≤ d) : ee_run ee_B P d 202 [.int 119, .int 114, .int 105, .int 116, .int 101] w = some ([.long (Int64.ofNat (wcn 6))], w) := (r_w5 hd 119 114 105 116 101).trans (congrArg (fun x => some ([Value.long x], w)) (by decide +kernel))
theorem wc_7 (hd : 2 ≤ d) : ee_run ee_B P d 204 [.int 100, .int 97, .int 121] w = some ([.long (Int64.ofNat (wcn 7))], w) := (r_w3 hd 100 97 121).trans (congrArg (fun x => some ([Value.long x], w)) (by decide +kernel))
theorem wc_8 (hd : 1 ≤ d) : ee_run ee_B P d 205 [.int 98, .int 121] w = some ([.long (Int64.ofNat (wcn 8))], w) := (r_w2 hd 98 121).trans (congrArg (fun x => some ([Value.long x], w)) (by decide +kernel))
theorem wc_9 (hd : 4 ≤ d) : ee_run ee_B P d 202 [.int 99, .int 117, .int 114, .int 118, .int 101] w = some ([.long (Int64.ofNat (wcn 9))], w) := (r_w5 hd 99 117 114 118 101).trans (congrArg (fun x => some ([Value.long x], w)) (by decide +kernel))
theorem wc_10 (hd : 5 ≤ d) : ee_run ee_B P d 207 [.int 108, .int 101, .int 97, .int 114, .int 110, .int 116] w = some ([.long (Int64.ofNat (wcn 10))], w) := (r_w6 hd 108 101 97 114 110 116).trans (congrArg (fun x => some ([Value.long x], w)) (by decide +kernel))
theorem wc_11 (hd : 1 ≤ d) : ee_run ee_B P d 205 [.int 105, .int 102] w = some ([.long (Int64.ofNat (wcn 11))], w) := (r_w2 hd 105 102).trans (congrArg (fun x => some ([Value.long x], w)) (by decide +kernel))
theorem wc_12 (hd : 3 ≤ d) : ee_run ee_B P d 203 [.int 116, .int 104, .int 101, .int 110] w = some ([.long (Int64.ofNat (wcn 12))], w) := (r_w4 hd 116 104 101 110).trans (congrArg (fun x => some ([Value.long x], w)) (by decide +kernel))
theorem wc_13 (hd : 3 ≤ d) : ee_run ee_B P d 203 [.int 101, .int 108, .int 115, .int 101] w = some ([.long (Int64.ofNat (wcn 13))], w) := (r_w4 hd 101 108 115 101).trans (congrArg (fun x => some ([Value.long x], w)) (by decide +kernel))
theorem wc_14 (hd : 2 ≤ d) : ee_run ee_B P d 204 [.int 101, .int 110, .int 100] w = some ([.long (Int64.ofNat (wcn 14))], w) := (r_w3 hd 101 110 100).trans (congrArg (fun x => some ([Value.long x], w)) (by decide +kernel))
theorem wc_15 (hd : 2 ≤ d) : ee_run ee_B P d 204 [.int 110, .int 111, .int 116] w = some ([.long (Int64.ofNat (wcn 15))], w) := (r_w3 hd 110 111 116).trans (congrArg (fun x => some ([Value.long x], w)) (by decide +kernel))
theorem wc_16 (hd : 2 ≤ d) : ee_run ee_B P d 204 [.int 97, .int 110, .int 100] w = some ([.long (Int64.ofNat (wcn 16))], w) := (r_w3 hd 97 110 100).trans (congrArg (fun x => some ([Value.long x], w)) (by decide +kernel))
theorem wc_17 (hd : 1 ≤ d) : ee_run ee_B P d 205 [.int 111, .int 114] w = some ([.long (Int64.ofNat (wcn 17))], w) := (r_w2 hd 111 114).trans (congrArg (fun x => some ([Value.long x], w)) (by decide +kernel))
theorem wc_18 (hd : 4 ≤ d) : ee_run ee_B P d 202 [.int 99, .int 108, .int 111, .int 99, .int 107] w = some ([.long (Int64.ofNat (wcn 18))], w) := (r_w5 hd 99 108 111 99 107).trans (congrArg (fun x => some ([Value.long x], w)) (by decide +kernel))
theorem wc_19 (hd : 5 ≤ d) : ee_run ee_B P d 207 [.int 115, .int 101, .int 99, .int 116, .int 111, .int 114] w = some ([.long (Int64.ofNat (wcn 19))], w) := (r_w6 hd 115 101 99 116 111 114).trans (congrArg (fun x => some ([Value.long x], w)) (by decide +kernel))
theorem wc_20 (hd : 4 ≤ d) : ee_run ee_B P d 202 [.int 115, .int 112, .int 101, .int 101, .int 100] w = some ([.long (Int64.ofNat (wcn 20))], w) := (r_w5 hd 115 112 101 101 100).trans (congrArg (fun x => some ([Value.long x], w)) (by decide +kernel))
theorem wc_21 (hd : 4 ≤ d) : ee_run ee_B P d 202 [.int 101, .int 114, .int 114, .int 111, .int 114] w = some ([.long (Int64.ofNat (wcn 21))], w) := (r_w5 hd 101 114 114 111 114).trans (congrArg (fun x => some ([Value.long x], w)) (by decide +kernel))
theorem wc_22 (hd : 5 ≤ d) : ee_run ee_B P d 207 [.int 116, .int 97, .int 114, .int 103, .int 101, .int 116] w = some ([.long (Int64.ofNat (wcn 22))], w) := (r_w6 hd 116 97 114 103 101 116).trans (congrArg (fun x => some ([Value.long x], w)) (by decide +kernel))
theorem wc_24 (hd : 2 ≤ d) : ee_run ee_B P d 204 [.int 111, .int 102, .int 102] w = some ([.long (Int64.ofNat (wcn 24))], w) := (r_w3 hd 111 102 102).trans (congrArg (fun x => some ([Value.long x], w)) (by decide +kernel))
end NTK
