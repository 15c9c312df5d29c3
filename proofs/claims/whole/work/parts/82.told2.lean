/-! by, request, said on both sides -/
section BU
variable {P : Nat → Nat → List Value → ee_W → Option (List Value × ee_W)} {d : Nat} {w : ee_W} {Z : ZX}
theorem b_by (hd : 4 ≤ d) (hS : Sim w) (t : Int32) : Both P d 61 231 [.int t] w := by
  obtain ⟨Z, h1, h2, h3⟩ := hS
  obtain ⟨d, rfl⟩ : ∃ k, d = k + 1 := ⟨d - 1, by omega⟩
  have hd1 : 1 ≤ d := by omega
  have hd2 : 2 ≤ d := by omega
  obtain ⟨n, n1, n2, n3, n4⟩ := nT_of h3.1
  obtain ⟨c1, c2, c3, c4, c5, c6, c7, c8⟩ := h1.1.2.2.2.1
  have c3' : w.1 1 4 = Int32.ofNat n := c3.trans n2
  have en : (Int32.ofNat n - 1).toInt = (n : Int) - 1 := by
    rw [i32_sub] <;> rw [nI_t (by omega), show (1 : Int32).toInt = 1 from rfl] <;> omega
  have m1 : (-1 : Int32).toInt = -1 := rfl
  have key : (decide (-1 ≤ t) && decide (t ≤ Int32.ofNat n - 1)) = true ↔ (t = -1 ∨ ∃ i, i < n ∧ t = Int32.ofNat i) := by
    rw [in_iff, en, m1]
    constructor
    · intro h
      by_cases q : t.toInt = -1
      · exact Or.inl (i32_eq.2 (by rw [q]; rfl))
      · right
        obtain ⟨k, k1, k2, k3⟩ := j_of (s := t) (by omega)
        exact ⟨k, by omega, k2⟩
    · rintro (rfl | ⟨i, hi, rfl⟩)
      · rw [m1]; omega
      · rw [nI_t (by omega)]; omega
  cases q : (decide (-1 ≤ t) && decide (t ≤ Int32.ofNat n - 1))
  · have nk : ¬ (t = -1 ∨ ∃ i, i < n ∧ t = Int32.ofNat i) := fun h => by rw [key.2 h] at q; cases q
    have k1 : ¬ t = -1 := fun h => nk (Or.inl h)
    have k2 := c_textNo (P := P) (w := w) hd2 n1 c3' (r := t) (fun h => nk (Or.inr h))
    refine both_q h1 h2 h3 (r := .int 0) ?_ ?_
    · rw [rn_61 cz_0]
      simp only [k1, k2, bd_61, k_0, k_1, k_4294967295, nz_1, v_and, v_call, v_cmp, v_cons, v_get, v_int, v_isnull, v_loc, v_nil, w_if, w_put, w_ret, w_seq, List.getElem?_cons_zero, List.getElem?_cons_succ, List.set_cons_zero, List.set_cons_succ, ee_cmp0, ee_cmp1, ee_cmp2, ee_cmp3, ee_cmp4, ee_cmp5, ee_cmpL0, ee_cmpL1, ee_cmpL2, ee_cmpL3, ee_cmpL4, ee_cmpL5, ee_tru_eb, decide_eq_true_eq, ib_i, ie_b, ie_f, ie_t, ib_l, fin_i, fin_l, fin_v, fin_z, fin_a, fin_n, ee_b_0, ee_fld0, ee_fld1, ee_fld2, ee_fld3, bi_0, bi_1, bi_2, bi_3, bi_4, bi_5, bi_6, bi_7, bi_8, bi_9, bi_10, bl_20, bl_21, bl_22, bl_23, bl_24, bl_25, bl_26, bl_48, bl_49, un_0, un_1, un_2, un_3, if_true, if_false, ite_true, ite_false, Bool.false_eq_true, Bool.not_eq_false, decide_not, Bool.not_not, reduceCtorEq, st_i, st_l, st_r, st_n, ee_noL, ee_noL.eq_1, List.length_cons, List.length_nil, Nat.reduceAdd, Nat.reduceLT, Nat.zero_add, and_true, true_and, and_self, fin_ite, pu_0, pu_1, pu_3, sto_0, el_0, Bool.not_eq_true, decide_eq_false_iff_not, Bool.decide_eq_true, Bool.decide_eq_false, decide_true, decide_false, Bool.not_true, Bool.not_false, Bool.and_self, Bool.and_true, Bool.and_false, Bool.true_and, Bool.false_and, Bool.or_true, Bool.or_false, Bool.true_or, Bool.false_or, if_true, if_false, Bool.false_eq_true]
      rfl
    · have a0 : w.1 237 0 = Int32.ofNat n := h2.1.1.1.trans n2
      rw [rn_231 mz_0]
      simp only [r_isIn hd1, a0, q, bd_231, k_0, k_1, k_4294967295, nz_1, v_bin, v_call, v_cons, v_get, v_idx, v_int, v_loc, v_nil, v_not, v_z, w_if, w_ret, w_seq, w_sto, List.getElem?_cons_zero, List.getElem?_cons_succ, List.set_cons_zero, List.set_cons_succ, ee_cmp0, ee_cmp1, ee_cmp2, ee_cmp3, ee_cmp4, ee_cmp5, ee_cmpL0, ee_cmpL1, ee_cmpL2, ee_cmpL3, ee_cmpL4, ee_cmpL5, ee_tru_eb, decide_eq_true_eq, ib_i, ie_b, ie_f, ie_t, ib_l, fin_i, fin_l, fin_v, fin_z, fin_a, fin_n, ee_b_0, ee_fld0, ee_fld1, ee_fld2, ee_fld3, bi_0, bi_1, bi_2, bi_3, bi_4, bi_5, bi_6, bi_7, bi_8, bi_9, bi_10, bl_20, bl_21, bl_22, bl_23, bl_24, bl_25, bl_26, bl_48, bl_49, un_0, un_1, un_2, un_3, if_true, if_false, ite_true, ite_false, Bool.false_eq_true, Bool.not_eq_false, decide_not, Bool.not_not, reduceCtorEq, st_i, st_l, st_r, st_n, ee_noL, ee_noL.eq_1, List.length_cons, List.length_nil, Nat.reduceAdd, Nat.reduceLT, Nat.zero_add, and_true, true_and, and_self, fin_ite, pu_0, pu_1, pu_3, sto_0, el_0, Bool.not_eq_true, decide_eq_false_iff_not, Bool.decide_eq_true, Bool.decide_eq_false, decide_true, decide_false, Bool.not_true, Bool.not_false, Bool.and_self, Bool.and_true, Bool.and_false, Bool.true_and, Bool.false_and, Bool.or_true, Bool.or_false, Bool.true_or, Bool.false_or, if_true, if_false, Bool.false_eq_true, ix_0, ix_1, tc_0, tc_1, mz_0, mz_1, mz_a, rvs, j_s, j_a, wI_at, Nat.reduceEqDiff, zero_ne_one_n, one_ne_zero_n]
      rfl
  · have hk := key.1 q
    have hW : WZ ((Z.1.1, Z.1.2.1, Z.1.2.2.1, up Z.1.2.2.2.1 2 t, Z.1.2.2.2.2), Z.2) := by
      obtain ⟨⟨v1, v2, v3, v4, v5⟩, v6⟩ := h3
      exact ⟨⟨v1, v2, v3, ⟨n, n1, n2, hk⟩, v5⟩, v6⟩
    refine both_of h2 h3 hW (r := .int 1) ?_ ?_
    · have hc : chg pm0 w (ee_wI w 1 5 t) := chg_I (by decide) (chg_refl _ _)
      refine ⟨ee_wI w 1 5 t, ?_, CZ_0 (Y' := (Z.1.1, Z.1.2.1, Z.1.2.2.1, up Z.1.2.2.2.1 2 t, Z.1.2.2.2.2)) h1 hc ⟨fun j hj => ?_, ?_, ?_, ?_, ?_, fun i hi => ?_, ?_, fun i hi => ?_⟩ h1.1.2.2.2.2.1 h1.1.2.2.2.2.2 (Nat.le_refl _), chg_mono hc pm0_lo⟩
      · rw [rn_61 cz_0]
        by_cases k1 : t = -1
        · simp only [k1, cz_0, cz_r0, al_1.1, rvs, bd_61, k_0, k_1, k_4294967295, nz_1, v_and, v_call, v_cmp, v_cons, v_get, v_int, v_isnull, v_loc, v_nil, w_if, w_put, w_ret, w_seq, List.getElem?_cons_zero, List.getElem?_cons_succ, List.set_cons_zero, List.set_cons_succ, ee_cmp0, ee_cmp1, ee_cmp2, ee_cmp3, ee_cmp4, ee_cmp5, ee_cmpL0, ee_cmpL1, ee_cmpL2, ee_cmpL3, ee_cmpL4, ee_cmpL5, ee_tru_eb, decide_eq_true_eq, ib_i, ie_b, ie_f, ie_t, ib_l, fin_i, fin_l, fin_v, fin_z, fin_a, fin_n, ee_b_0, ee_fld0, ee_fld1, ee_fld2, ee_fld3, bi_0, bi_1, bi_2, bi_3, bi_4, bi_5, bi_6, bi_7, bi_8, bi_9, bi_10, bl_20, bl_21, bl_22, bl_23, bl_24, bl_25, bl_26, bl_48, bl_49, un_0, un_1, un_2, un_3, if_true, if_false, ite_true, ite_false, Bool.false_eq_true, Bool.not_eq_false, decide_not, Bool.not_not, reduceCtorEq, st_i, st_l, st_r, st_n, ee_noL, ee_noL.eq_1, List.length_cons, List.length_nil, Nat.reduceAdd, Nat.reduceLT, Nat.zero_add, and_true, true_and, and_self, fin_ite, pu_0, pu_1, pu_3, sto_0, el_0, Bool.not_eq_true, decide_eq_false_iff_not, Bool.decide_eq_true, Bool.decide_eq_false, decide_true, decide_false, Bool.not_true, Bool.not_false, Bool.and_self, Bool.and_true, Bool.and_false, Bool.true_and, Bool.false_and, Bool.or_true, Bool.or_false, Bool.true_or, Bool.false_or, if_true, if_false, Bool.false_eq_true]
          rfl
        · obtain ⟨i, hi, hti⟩ := hk.resolve_left k1
          have k2 := c_textIs (P := P) (w := w) hd2 n1 c3' hi
          rw [← hti] at k2
          simp only [k1, k2, cz_0, cz_r0, al_1.1, rvs, bd_61, k_0, k_1, k_4294967295, nz_1, v_and, v_call, v_cmp, v_cons, v_get, v_int, v_isnull, v_loc, v_nil, w_if, w_put, w_ret, w_seq, List.getElem?_cons_zero, List.getElem?_cons_succ, List.set_cons_zero, List.set_cons_succ, ee_cmp0, ee_cmp1, ee_cmp2, ee_cmp3, ee_cmp4, ee_cmp5, ee_cmpL0, ee_cmpL1, ee_cmpL2, ee_cmpL3, ee_cmpL4, ee_cmpL5, ee_tru_eb, decide_eq_true_eq, ib_i, ie_b, ie_f, ie_t, ib_l, fin_i, fin_l, fin_v, fin_z, fin_a, fin_n, ee_b_0, ee_fld0, ee_fld1, ee_fld2, ee_fld3, bi_0, bi_1, bi_2, bi_3, bi_4, bi_5, bi_6, bi_7, bi_8, bi_9, bi_10, bl_20, bl_21, bl_22, bl_23, bl_24, bl_25, bl_26, bl_48, bl_49, un_0, un_1, un_2, un_3, if_true, if_false, ite_true, ite_false, Bool.false_eq_true, Bool.not_eq_false, decide_not, Bool.not_not, reduceCtorEq, st_i, st_l, st_r, st_n, ee_noL, ee_noL.eq_1, List.length_cons, List.length_nil, Nat.reduceAdd, Nat.reduceLT, Nat.zero_add, and_true, true_and, and_self, fin_ite, pu_0, pu_1, pu_3, sto_0, el_0, Bool.not_eq_true, decide_eq_false_iff_not, Bool.decide_eq_true, Bool.decide_eq_false, decide_true, decide_false, Bool.not_true, Bool.not_false, Bool.and_self, Bool.and_true, Bool.and_false, Bool.true_and, Bool.false_and, Bool.or_true, Bool.or_false, Bool.true_or, Bool.false_or, if_true, if_false, Bool.false_eq_true]
          rfl
      · rw [wI_at, if_neg (by omega)]; exact c1 j hj
      · rw [wI_at, if_neg (by omega)]; exact c2
      · rw [wI_at, if_neg (by omega)]; exact c3
      · rw [wI_at, if_pos ⟨rfl, rfl⟩]; rfl
      · rw [wI_at, if_neg (by omega)]; exact c5
      · rw [wI_at, if_neg (by omega)]; exact c6 i hi
      · rw [wI_at, if_neg (by omega)]; exact c7
      · rw [wI_at, if_neg (by omega), wI_at, if_neg (by omega)]; exact c8 i hi
    · intro w1 hM
      obtain ⟨b0, b1, b3, b4, b5, b6, b7, b8⟩ := M0_of hM.1
      have hc : chk pmm w1 (ee_wI w1 237 1 t) := chk_I ⟨rfl, by omega⟩ (chk_refl _ _)
      have a0 : w1.1 237 0 = Int32.ofNat n := b0.trans n2
      refine ⟨_, ?_, MZ_0 (Y' := (Z.1.1, Z.1.2.1, Z.1.2.2.1, up Z.1.2.2.2.1 2 t, Z.1.2.2.2.2)) hM h3 hc ⟨?_, ?_, ?_, ?_, fun j hj => ?_, ?_, fun i hi => ?_, fun i hi => ?_⟩ (Nat.le_refl _), chk_mono hc pmm_hi⟩
      · rw [rn_231 mz_0]
        simp only [r_isIn hd1, a0, q, bd_231, k_0, k_1, k_4294967295, nz_1, v_bin, v_call, v_cons, v_get, v_idx, v_int, v_loc, v_nil, v_not, v_z, w_if, w_ret, w_seq, w_sto, List.getElem?_cons_zero, List.getElem?_cons_succ, List.set_cons_zero, List.set_cons_succ, ee_cmp0, ee_cmp1, ee_cmp2, ee_cmp3, ee_cmp4, ee_cmp5, ee_cmpL0, ee_cmpL1, ee_cmpL2, ee_cmpL3, ee_cmpL4, ee_cmpL5, ee_tru_eb, decide_eq_true_eq, ib_i, ie_b, ie_f, ie_t, ib_l, fin_i, fin_l, fin_v, fin_z, fin_a, fin_n, ee_b_0, ee_fld0, ee_fld1, ee_fld2, ee_fld3, bi_0, bi_1, bi_2, bi_3, bi_4, bi_5, bi_6, bi_7, bi_8, bi_9, bi_10, bl_20, bl_21, bl_22, bl_23, bl_24, bl_25, bl_26, bl_48, bl_49, un_0, un_1, un_2, un_3, if_true, if_false, ite_true, ite_false, Bool.false_eq_true, Bool.not_eq_false, decide_not, Bool.not_not, reduceCtorEq, st_i, st_l, st_r, st_n, ee_noL, ee_noL.eq_1, List.length_cons, List.length_nil, Nat.reduceAdd, Nat.reduceLT, Nat.zero_add, and_true, true_and, and_self, fin_ite, pu_0, pu_1, pu_3, sto_0, el_0, Bool.not_eq_true, decide_eq_false_iff_not, Bool.decide_eq_true, Bool.decide_eq_false, decide_true, decide_false, Bool.not_true, Bool.not_false, Bool.and_self, Bool.and_true, Bool.and_false, Bool.true_and, Bool.false_and, Bool.or_true, Bool.or_false, Bool.true_or, Bool.false_or, if_true, if_false, Bool.false_eq_true, ix_0, ix_1, tc_0, tc_1, mz_0, mz_1, mz_a, rvs, j_s, j_a, wI_at, Nat.reduceEqDiff, zero_ne_one_n, one_ne_zero_n]
        rfl
      · rw [wI_at, if_neg (by omega)]; exact b0
      · rw [wI_at, if_pos ⟨rfl, rfl⟩]; rfl
      · rw [wI_at, if_neg (by omega)]; exact b3
      · rw [wI_at, if_neg (by omega)]; exact b4
      · rw [wI_at, if_neg (by omega)]; exact b5 j hj
      · rw [wI_at, if_neg (by omega)]; exact b6
      · rw [wI_at, if_neg (by omega)]; exact b7 i hi
      · rw [wI_at, if_neg (by omega), wI_at, if_neg (by omega)]; exact b8 i hi
def addq (r : Nat × (Nat → Int32)) (t : Int32) : Nat × (Nat → Int32) := (r.1 + 1, fun i => if i = r.1 then t else r.2 i)
theorem b_request (hd : 4 ≤ d) (hS : Sim w) (t : Int32) : Both P d 150 321 [.int t] w := by
  obtain ⟨Z, h1, h2, h3⟩ := hS
  obtain ⟨d, rfl⟩ : ∃ k, d = k + 1 := ⟨d - 1, by omega⟩
  have hd1 : 1 ≤ d := by omega
  have hd2 : 2 ≤ d := by omega
  obtain ⟨p0, p1, p2, p3, p4, p5, p6, p7, p8, -⟩ := al_1
  obtain ⟨c1, c2, c3, c4, c5, c6, c7, c8⟩ := h1.1.2.2.2.1
  have l6 : Z.1.2.2.2.2.1.1 ≤ 6 := h1.1.2.2.2.2.1
  by_cases q0 : t = -1
  · subst q0
    have hW : WZ ((Z.1.1, Z.1.2.1, Z.1.2.2.1, Z.1.2.2.2.1, (0, Z.1.2.2.2.2.1.2), Z.1.2.2.2.2.2), Z.2) := by
      obtain ⟨⟨v1, v2, v3, v4, v5, v6⟩, v7⟩ := h3
      exact ⟨⟨v1, v2, v3, v4, ⟨Nat.zero_le _, fun i hi => by have hi : i < 0 := hi; omega⟩, v6⟩, v7⟩
    refine both_of h2 h3 hW (r := .int 0) ?_ ?_
    · have hc : chg pm0 w (ee_wI w 1 7 0) := chg_I (by decide) (chg_refl _ _)
      refine ⟨ee_wI w 1 7 0, ?_, CZ_0 (Y' := (Z.1.1, Z.1.2.1, Z.1.2.2.1, Z.1.2.2.2.1, (0, Z.1.2.2.2.2.1.2), Z.1.2.2.2.2.2)) h1 hc ⟨fun j hj => ?_, ?_, ?_, ?_, ?_, fun i hi => ?_, ?_, fun i hi => ?_⟩ (Nat.zero_le _) h1.1.2.2.2.2.2 (Nat.le_refl _), chg_mono hc pm0_lo⟩
      · rw [rn_150 cz_0]
        simp only [cz_0, cz_r0, p0, rvs, bd_150, k_0, k_1, k_4294967294, k_4294967295, k_5, nz_1, nz_5, v_call, v_cmp, v_cons, v_get, v_int, v_loc, v_nil, v_not, v_or, v_z, w_if, w_opf, w_put, w_ret, w_seq, w_sto, List.getElem?_cons_zero, List.getElem?_cons_succ, List.set_cons_zero, List.set_cons_succ, ee_cmp0, ee_cmp1, ee_cmp2, ee_cmp3, ee_cmp4, ee_cmp5, ee_cmpL0, ee_cmpL1, ee_cmpL2, ee_cmpL3, ee_cmpL4, ee_cmpL5, ee_tru_eb, decide_eq_true_eq, ib_i, ie_b, ie_f, ie_t, ib_l, fin_i, fin_l, fin_v, fin_z, fin_a, fin_n, ee_b_0, ee_fld0, ee_fld1, ee_fld2, ee_fld3, bi_0, bi_1, bi_2, bi_3, bi_4, bi_5, bi_6, bi_7, bi_8, bi_9, bi_10, bl_20, bl_21, bl_22, bl_23, bl_24, bl_25, bl_26, bl_48, bl_49, un_0, un_1, un_2, un_3, if_true, if_false, ite_true, ite_false, Bool.false_eq_true, Bool.not_eq_false, decide_not, Bool.not_not, reduceCtorEq, st_i, st_l, st_r, st_n, ee_noL, ee_noL.eq_1, List.length_cons, List.length_nil, Nat.reduceAdd, Nat.reduceLT, Nat.zero_add, and_true, true_and, and_self, fin_ite, pu_0, pu_1, pu_3, sto_0, el_0, Bool.not_eq_true, decide_eq_false_iff_not, Bool.decide_eq_true, Bool.decide_eq_false, decide_true, decide_false, Bool.not_true, Bool.not_false, Bool.and_self, Bool.and_true, Bool.and_false, Bool.true_and, Bool.false_and, Bool.or_true, Bool.or_false, Bool.true_or, Bool.false_or, if_true, if_false, Bool.false_eq_true]
      · rw [wI_at, if_neg (by omega)]; exact c1 j hj
      · rw [wI_at, if_neg (by omega)]; exact c2
      · rw [wI_at, if_neg (by omega)]; exact c3
      · rw [wI_at, if_neg (by omega)]; exact c4
      · rw [wI_at, if_pos ⟨rfl, rfl⟩]; rfl
      · have hi : i < 0 := hi
        omega
      · rw [wI_at, if_neg (by omega)]; exact c7
      · rw [wI_at, if_neg (by omega), wI_at, if_neg (by omega)]; exact c8 i hi
    · intro w1 hM
      obtain ⟨b0, b1, b3, b4, b5, b6, b7, b8⟩ := M0_of hM.1
      have hc : chk pmm w1 (ee_wI w1 237 3 0) := chk_I ⟨rfl, by omega⟩ (chk_refl _ _)
      refine ⟨_, ?_, MZ_0 (Y' := (Z.1.1, Z.1.2.1, Z.1.2.2.1, Z.1.2.2.2.1, (0, Z.1.2.2.2.2.1.2), Z.1.2.2.2.2.2)) hM h3 hc ⟨?_, ?_, ?_, ?_, fun j hj => ?_, ?_, fun i hi => ?_, fun i hi => ?_⟩ (Nat.le_refl _), chk_mono hc pmm_hi⟩
      · rw [rn_321 mz_0]
        simp only [bd_321, k_0, k_1, k_3, k_32, k_4294967294, k_4294967295, k_6, nz_1, nz_3, nz_32, nz_6, v_bin, v_call, v_cmp, v_cons, v_get, v_idx, v_int, v_loc, v_nil, v_not, v_or, v_z, w_if, w_opa, w_ret, w_seq, w_sto, List.getElem?_cons_zero, List.getElem?_cons_succ, List.set_cons_zero, List.set_cons_succ, ee_cmp0, ee_cmp1, ee_cmp2, ee_cmp3, ee_cmp4, ee_cmp5, ee_cmpL0, ee_cmpL1, ee_cmpL2, ee_cmpL3, ee_cmpL4, ee_cmpL5, ee_tru_eb, decide_eq_true_eq, ib_i, ie_b, ie_f, ie_t, ib_l, fin_i, fin_l, fin_v, fin_z, fin_a, fin_n, ee_b_0, ee_fld0, ee_fld1, ee_fld2, ee_fld3, bi_0, bi_1, bi_2, bi_3, bi_4, bi_5, bi_6, bi_7, bi_8, bi_9, bi_10, bl_20, bl_21, bl_22, bl_23, bl_24, bl_25, bl_26, bl_48, bl_49, un_0, un_1, un_2, un_3, if_true, if_false, ite_true, ite_false, Bool.false_eq_true, Bool.not_eq_false, decide_not, Bool.not_not, reduceCtorEq, st_i, st_l, st_r, st_n, ee_noL, ee_noL.eq_1, List.length_cons, List.length_nil, Nat.reduceAdd, Nat.reduceLT, Nat.zero_add, and_true, true_and, and_self, fin_ite, pu_0, pu_1, pu_3, sto_0, el_0, Bool.not_eq_true, decide_eq_false_iff_not, Bool.decide_eq_true, Bool.decide_eq_false, decide_true, decide_false, Bool.not_true, Bool.not_false, Bool.and_self, Bool.and_true, Bool.and_false, Bool.true_and, Bool.false_and, Bool.or_true, Bool.or_false, Bool.true_or, Bool.false_or, if_true, if_false, Bool.false_eq_true, ix_0, ix_1, ix_3, ix_32, ix_6, tc_0, tc_1, tc_3, tc_32, tc_6, mz_0, mz_1, mz_a, rvs, j_s, j_a, wI_at, Nat.reduceEqDiff, zero_ne_one_n, one_ne_zero_n]
      · rw [wI_at, if_neg (by omega)]; exact b0
      · rw [wI_at, if_neg (by omega)]; exact b1
      · rw [wI_at, if_pos ⟨rfl, rfl⟩]; rfl
      · rw [wI_at, if_neg (by omega)]; exact b4
      · rw [wI_at, if_neg (by omega)]; exact b5 j hj
      · rw [wI_at, if_neg (by omega)]; exact b6
      · have hi : i < 0 := hi
        omega
      · rw [wI_at, if_neg (by omega), wI_at, if_neg (by omega)]; exact b8 i hi
  · have em := fun (w : ee_W) => r_isTrackM (P := P) (w := w) hd2 t
    simp only [i63] at em
    cases q1 : (decide (0 ≤ t) && decide (t < 64))
    · refine both_q h1 h2 h3 (r := .int (-2)) ?_ ?_
      · rw [rn_150 cz_0]
        simp only [q0, r_isTrack hd1, q1, bd_150, k_0, k_1, k_4294967294, k_4294967295, k_5, nz_1, nz_5, v_call, v_cmp, v_cons, v_get, v_int, v_loc, v_nil, v_not, v_or, v_z, w_if, w_opf, w_put, w_ret, w_seq, w_sto, List.getElem?_cons_zero, List.getElem?_cons_succ, List.set_cons_zero, List.set_cons_succ, ee_cmp0, ee_cmp1, ee_cmp2, ee_cmp3, ee_cmp4, ee_cmp5, ee_cmpL0, ee_cmpL1, ee_cmpL2, ee_cmpL3, ee_cmpL4, ee_cmpL5, ee_tru_eb, decide_eq_true_eq, ib_i, ie_b, ie_f, ie_t, ib_l, fin_i, fin_l, fin_v, fin_z, fin_a, fin_n, ee_b_0, ee_fld0, ee_fld1, ee_fld2, ee_fld3, bi_0, bi_1, bi_2, bi_3, bi_4, bi_5, bi_6, bi_7, bi_8, bi_9, bi_10, bl_20, bl_21, bl_22, bl_23, bl_24, bl_25, bl_26, bl_48, bl_49, un_0, un_1, un_2, un_3, if_true, if_false, ite_true, ite_false, Bool.false_eq_true, Bool.not_eq_false, decide_not, Bool.not_not, reduceCtorEq, st_i, st_l, st_r, st_n, ee_noL, ee_noL.eq_1, List.length_cons, List.length_nil, Nat.reduceAdd, Nat.reduceLT, Nat.zero_add, and_true, true_and, and_self, fin_ite, pu_0, pu_1, pu_3, sto_0, el_0, Bool.not_eq_true, decide_eq_false_iff_not, Bool.decide_eq_true, Bool.decide_eq_false, decide_true, decide_false, Bool.not_true, Bool.not_false, Bool.and_self, Bool.and_true, Bool.and_false, Bool.true_and, Bool.false_and, Bool.or_true, Bool.or_false, Bool.true_or, Bool.false_or, if_true, if_false, Bool.false_eq_true]
      · rw [rn_321 mz_0]
        simp only [q0, em, q1, bd_321, k_0, k_1, k_3, k_32, k_4294967294, k_4294967295, k_6, nz_1, nz_3, nz_32, nz_6, v_bin, v_call, v_cmp, v_cons, v_get, v_idx, v_int, v_loc, v_nil, v_not, v_or, v_z, w_if, w_opa, w_ret, w_seq, w_sto, List.getElem?_cons_zero, List.getElem?_cons_succ, List.set_cons_zero, List.set_cons_succ, ee_cmp0, ee_cmp1, ee_cmp2, ee_cmp3, ee_cmp4, ee_cmp5, ee_cmpL0, ee_cmpL1, ee_cmpL2, ee_cmpL3, ee_cmpL4, ee_cmpL5, ee_tru_eb, decide_eq_true_eq, ib_i, ie_b, ie_f, ie_t, ib_l, fin_i, fin_l, fin_v, fin_z, fin_a, fin_n, ee_b_0, ee_fld0, ee_fld1, ee_fld2, ee_fld3, bi_0, bi_1, bi_2, bi_3, bi_4, bi_5, bi_6, bi_7, bi_8, bi_9, bi_10, bl_20, bl_21, bl_22, bl_23, bl_24, bl_25, bl_26, bl_48, bl_49, un_0, un_1, un_2, un_3, if_true, if_false, ite_true, ite_false, Bool.false_eq_true, Bool.not_eq_false, decide_not, Bool.not_not, reduceCtorEq, st_i, st_l, st_r, st_n, ee_noL, ee_noL.eq_1, List.length_cons, List.length_nil, Nat.reduceAdd, Nat.reduceLT, Nat.zero_add, and_true, true_and, and_self, fin_ite, pu_0, pu_1, pu_3, sto_0, el_0, Bool.not_eq_true, decide_eq_false_iff_not, Bool.decide_eq_true, Bool.decide_eq_false, decide_true, decide_false, Bool.not_true, Bool.not_false, Bool.and_self, Bool.and_true, Bool.and_false, Bool.true_and, Bool.false_and, Bool.or_true, Bool.or_false, Bool.true_or, Bool.false_or, if_true, if_false, Bool.false_eq_true, ix_0, ix_1, ix_3, ix_32, ix_6, tc_0, tc_1, tc_3, tc_32, tc_6, mz_0, mz_1, mz_a, rvs, j_s, j_a, wI_at, Nat.reduceEqDiff, zero_ne_one_n, one_ne_zero_n]
    · generalize hr : Z.1.2.2.2.2.1 = r at *
      have b3' : w.1 237 3 = Int32.ofNat r.1 := by rw [← hr]; exact h2.1.1.2.2.2.1
      by_cases q2 : r.1 = 6
      · have e5 : w.1 1 7 = 6 := by rw [c5, q2]; rfl
        have e3 : w.1 237 3 = 6 := by rw [b3', q2]; rfl
        have nw : (decide ((0 : Int32) ≤ 6) && decide ((6 : Int32) ≤ 5)) = false := by decide
        refine both_q h1 h2 h3 (r := .int (-2)) ?_ ?_
        · rw [rn_150 cz_0]
          simp only [q0, r_isTrack hd1, r_within hd1, q1, e5, nw, cz_0, cz_r0, p0, rvs, bd_150, k_0, k_1, k_4294967294, k_4294967295, k_5, nz_1, nz_5, v_call, v_cmp, v_cons, v_get, v_int, v_loc, v_nil, v_not, v_or, v_z, w_if, w_opf, w_put, w_ret, w_seq, w_sto, List.getElem?_cons_zero, List.getElem?_cons_succ, List.set_cons_zero, List.set_cons_succ, ee_cmp0, ee_cmp1, ee_cmp2, ee_cmp3, ee_cmp4, ee_cmp5, ee_cmpL0, ee_cmpL1, ee_cmpL2, ee_cmpL3, ee_cmpL4, ee_cmpL5, ee_tru_eb, decide_eq_true_eq, ib_i, ie_b, ie_f, ie_t, ib_l, fin_i, fin_l, fin_v, fin_z, fin_a, fin_n, ee_b_0, ee_fld0, ee_fld1, ee_fld2, ee_fld3, bi_0, bi_1, bi_2, bi_3, bi_4, bi_5, bi_6, bi_7, bi_8, bi_9, bi_10, bl_20, bl_21, bl_22, bl_23, bl_24, bl_25, bl_26, bl_48, bl_49, un_0, un_1, un_2, un_3, if_true, if_false, ite_true, ite_false, Bool.false_eq_true, Bool.not_eq_false, decide_not, Bool.not_not, reduceCtorEq, st_i, st_l, st_r, st_n, ee_noL, ee_noL.eq_1, List.length_cons, List.length_nil, Nat.reduceAdd, Nat.reduceLT, Nat.zero_add, and_true, true_and, and_self, fin_ite, pu_0, pu_1, pu_3, sto_0, el_0, Bool.not_eq_true, decide_eq_false_iff_not, Bool.decide_eq_true, Bool.decide_eq_false, decide_true, decide_false, Bool.not_true, Bool.not_false, Bool.and_self, Bool.and_true, Bool.and_false, Bool.true_and, Bool.false_and, Bool.or_true, Bool.or_false, Bool.true_or, Bool.false_or, if_true, if_false, Bool.false_eq_true]
        · rw [rn_321 mz_0]
          simp only [q0, em, q1, e3, bd_321, k_0, k_1, k_3, k_32, k_4294967294, k_4294967295, k_6, nz_1, nz_3, nz_32, nz_6, v_bin, v_call, v_cmp, v_cons, v_get, v_idx, v_int, v_loc, v_nil, v_not, v_or, v_z, w_if, w_opa, w_ret, w_seq, w_sto, List.getElem?_cons_zero, List.getElem?_cons_succ, List.set_cons_zero, List.set_cons_succ, ee_cmp0, ee_cmp1, ee_cmp2, ee_cmp3, ee_cmp4, ee_cmp5, ee_cmpL0, ee_cmpL1, ee_cmpL2, ee_cmpL3, ee_cmpL4, ee_cmpL5, ee_tru_eb, decide_eq_true_eq, ib_i, ie_b, ie_f, ie_t, ib_l, fin_i, fin_l, fin_v, fin_z, fin_a, fin_n, ee_b_0, ee_fld0, ee_fld1, ee_fld2, ee_fld3, bi_0, bi_1, bi_2, bi_3, bi_4, bi_5, bi_6, bi_7, bi_8, bi_9, bi_10, bl_20, bl_21, bl_22, bl_23, bl_24, bl_25, bl_26, bl_48, bl_49, un_0, un_1, un_2, un_3, if_true, if_false, ite_true, ite_false, Bool.false_eq_true, Bool.not_eq_false, decide_not, Bool.not_not, reduceCtorEq, st_i, st_l, st_r, st_n, ee_noL, ee_noL.eq_1, List.length_cons, List.length_nil, Nat.reduceAdd, Nat.reduceLT, Nat.zero_add, and_true, true_and, and_self, fin_ite, pu_0, pu_1, pu_3, sto_0, el_0, Bool.not_eq_true, decide_eq_false_iff_not, Bool.decide_eq_true, Bool.decide_eq_false, decide_true, decide_false, Bool.not_true, Bool.not_false, Bool.and_self, Bool.and_true, Bool.and_false, Bool.true_and, Bool.false_and, Bool.or_true, Bool.or_false, Bool.true_or, Bool.false_or, if_true, if_false, Bool.false_eq_true, ix_0, ix_1, ix_3, ix_32, ix_6, tc_0, tc_1, tc_3, tc_32, tc_6, mz_0, mz_1, mz_a, rvs, j_s, j_a, wI_at, Nat.reduceEqDiff, zero_ne_one_n, one_ne_zero_n]
      · have hb : bI t 0 63 := by
          have ht := (in_iff t 0 63).1 (by rw [i63]; exact q1)
          exact ⟨ht.1, ht.2⟩
        have hW : WZ ((Z.1.1, Z.1.2.1, Z.1.2.2.1, Z.1.2.2.2.1, addq r t, Z.1.2.2.2.2.2), Z.2) := by
          obtain ⟨⟨v1, v2, v3, v4, v5, v6⟩, v7⟩ := h3
          refine ⟨⟨v1, v2, v3, v4, ⟨by show r.1 + 1 ≤ 6; omega, fun i hi => ?_⟩, v6⟩, v7⟩
          have hi : i < r.1 + 1 := hi
          show bI (if i = r.1 then t else r.2 i) 0 63
          split
          · exact hb
          · have := v5.2 i (by rw [hr]; omega)
            rw [hr] at this
            exact this
        have wi : (decide ((0 : Int32) ≤ Int32.ofNat r.1) && decide (Int32.ofNat r.1 ≤ 5)) = true := by
          rw [in_iff, nI_t (by omega)]
          exact ⟨by show (0 : Int) ≤ _; omega, by show _ ≤ (5 : Int); omega⟩
        have ne6 : ¬ Int32.ofNat r.1 = 6 := fun y => by
          have := i32_eq.1 y
          rw [nI_t (by omega), show (6 : Int32).toInt = 6 from rfl] at this
          omega
        refine both_of h2 h3 hW (r := .int (Int32.ofNat (r.1 + 1))) ?_ ?_
        · have x1 : ee_ix (Int32.ofNat r.1) 6 = true := by rw [ixn (by omega)]; exact decide_eq_true (by omega)
          have hc : chg pm0 w (ee_wI (ee_wI w 98 r.1 t) 1 7 (Int32.ofNat (r.1 + 1))) := chg_I (by decide) (chg_I (by decide) (chg_refl _ _))
          refine ⟨_, ?_, CZ_0 (Y' := (Z.1.1, Z.1.2.1, Z.1.2.2.1, Z.1.2.2.2.1, addq r t, Z.1.2.2.2.2.2)) h1 hc ⟨fun j hj => ?_, ?_, ?_, ?_, ?_, fun i hi => ?_, ?_, fun i hi => ?_⟩ (by show r.1 + 1 ≤ 6; omega) h1.1.2.2.2.2.2 (Nat.le_refl _), chg_mono hc pm0_lo⟩
          · rw [rn_150 cz_0]
            simp only [q0, r_isTrack hd1, r_within hd1, q1, c5, wi, x1, tnc (show r.1 < 2147483648 by omega), j_s, j_a, w_opf, cz_0, cz_r0, p0, p4, p8, rvs, show (1 = 98) = False from by decide, zz_ce, zz_ec, zz_cf, zz_fc, zz_ef, zz_fe, wI_at, wI_2, wJ_at, wJ_1, wJ_2, and_true, true_and, and_false, false_and, if_true, if_false, Nat.reduceEqDiff, Nat.reduceAdd, zero_ne_one_n, one_ne_zero_n, bd_150, k_0, k_1, k_4294967294, k_4294967295, k_5, nz_1, nz_5, v_call, v_cmp, v_cons, v_get, v_int, v_loc, v_nil, v_not, v_or, v_z, w_if, w_opf, w_put, w_ret, w_seq, w_sto, List.getElem?_cons_zero, List.getElem?_cons_succ, List.set_cons_zero, List.set_cons_succ, ee_cmp0, ee_cmp1, ee_cmp2, ee_cmp3, ee_cmp4, ee_cmp5, ee_cmpL0, ee_cmpL1, ee_cmpL2, ee_cmpL3, ee_cmpL4, ee_cmpL5, ee_tru_eb, decide_eq_true_eq, ib_i, ie_b, ie_f, ie_t, ib_l, fin_i, fin_l, fin_v, fin_z, fin_a, fin_n, ee_b_0, ee_fld0, ee_fld1, ee_fld2, ee_fld3, bi_0, bi_1, bi_2, bi_3, bi_4, bi_5, bi_6, bi_7, bi_8, bi_9, bi_10, bl_20, bl_21, bl_22, bl_23, bl_24, bl_25, bl_26, bl_48, bl_49, un_0, un_1, un_2, un_3, if_true, if_false, ite_true, ite_false, Bool.false_eq_true, Bool.not_eq_false, decide_not, Bool.not_not, reduceCtorEq, st_i, st_l, st_r, st_n, ee_noL, ee_noL.eq_1, List.length_cons, List.length_nil, Nat.reduceAdd, Nat.reduceLT, Nat.zero_add, and_true, true_and, and_self, fin_ite, pu_0, pu_1, pu_3, sto_0, el_0, Bool.not_eq_true, decide_eq_false_iff_not, Bool.decide_eq_true, Bool.decide_eq_false, decide_true, decide_false, Bool.not_true, Bool.not_false, Bool.and_self, Bool.and_true, Bool.and_false, Bool.true_and, Bool.false_and, Bool.or_true, Bool.or_false, Bool.true_or, Bool.false_or, if_true, if_false, Bool.false_eq_true]
          · rw [wI_at, if_neg (by omega), wI_at, if_neg (by omega)]; exact c1 j hj
          · rw [wI_at, if_neg (by omega), wI_at, if_neg (by omega)]; exact c2
          · rw [wI_at, if_neg (by omega), wI_at, if_neg (by omega)]; exact c3
          · rw [wI_at, if_neg (by omega), wI_at, if_neg (by omega)]; exact c4
          · rw [wI_at, if_pos ⟨rfl, rfl⟩]; rfl
          · have hi : i < r.1 + 1 := hi
            show (ee_wI (ee_wI w 98 r.1 t) 1 7 (Int32.ofNat (r.1 + 1))).1 98 i = if i = r.1 then t else r.2 i
            rw [wI_at, if_neg (by omega), wI_at]
            by_cases y : i = r.1
            · rw [if_pos ⟨rfl, y⟩, if_pos y]
            · rw [if_neg (fun z => y z.2), if_neg y]; exact c6 i (by omega)
          · rw [wI_at, if_neg (by omega), wI_at, if_neg (by omega)]; exact c7
          · rw [wI_at, if_neg (by omega), wI_at, if_neg (by omega), wI_at, if_neg (by omega), wI_at, if_neg (by omega)]; exact c8 i hi
        · intro w1 hM
          obtain ⟨b0, b1, b3, b4, b5, b6, b7, b8⟩ := M0_of hM.1
          rw [hr] at b3 b7
          have e32 : (32 : Int32) + Int32.ofNat r.1 = Int32.ofNat (32 + r.1) := j_a 32 r.1
          have x1 : ee_ix (Int32.ofNat (32 + r.1)) 1369 = true := by rw [ixn (by omega)]; exact decide_eq_true (by omega)
          have hc : chk pmm w1 (ee_wI (ee_wI w1 237 (32 + r.1) t) 237 3 (Int32.ofNat (r.1 + 1))) := chk_I ⟨rfl, by omega⟩ (chk_I ⟨rfl, by omega⟩ (chk_refl _ _))
          refine ⟨_, ?_, MZ_0 (Y' := (Z.1.1, Z.1.2.1, Z.1.2.2.1, Z.1.2.2.2.1, addq r t, Z.1.2.2.2.2.2)) hM h3 hc ⟨?_, ?_, ?_, ?_, fun j hj => ?_, ?_, fun i hi => ?_, fun i hi => ?_⟩ (Nat.le_refl _), chk_mono hc pmm_hi⟩
          · rw [rn_321 mz_0]
            simp only [q0, em, q1, b3, ne6, e32, x1, tnc (show 32 + r.1 < 2147483648 by omega), w_opa, show (3 = 32 + r.1) = False from eq_false (by omega), and_false, bd_321, k_0, k_1, k_3, k_32, k_4294967294, k_4294967295, k_6, nz_1, nz_3, nz_32, nz_6, v_bin, v_call, v_cmp, v_cons, v_get, v_idx, v_int, v_loc, v_nil, v_not, v_or, v_z, w_if, w_opa, w_ret, w_seq, w_sto, List.getElem?_cons_zero, List.getElem?_cons_succ, List.set_cons_zero, List.set_cons_succ, ee_cmp0, ee_cmp1, ee_cmp2, ee_cmp3, ee_cmp4, ee_cmp5, ee_cmpL0, ee_cmpL1, ee_cmpL2, ee_cmpL3, ee_cmpL4, ee_cmpL5, ee_tru_eb, decide_eq_true_eq, ib_i, ie_b, ie_f, ie_t, ib_l, fin_i, fin_l, fin_v, fin_z, fin_a, fin_n, ee_b_0, ee_fld0, ee_fld1, ee_fld2, ee_fld3, bi_0, bi_1, bi_2, bi_3, bi_4, bi_5, bi_6, bi_7, bi_8, bi_9, bi_10, bl_20, bl_21, bl_22, bl_23, bl_24, bl_25, bl_26, bl_48, bl_49, un_0, un_1, un_2, un_3, if_true, if_false, ite_true, ite_false, Bool.false_eq_true, Bool.not_eq_false, decide_not, Bool.not_not, reduceCtorEq, st_i, st_l, st_r, st_n, ee_noL, ee_noL.eq_1, List.length_cons, List.length_nil, Nat.reduceAdd, Nat.reduceLT, Nat.zero_add, and_true, true_and, and_self, fin_ite, pu_0, pu_1, pu_3, sto_0, el_0, Bool.not_eq_true, decide_eq_false_iff_not, Bool.decide_eq_true, Bool.decide_eq_false, decide_true, decide_false, Bool.not_true, Bool.not_false, Bool.and_self, Bool.and_true, Bool.and_false, Bool.true_and, Bool.false_and, Bool.or_true, Bool.or_false, Bool.true_or, Bool.false_or, if_true, if_false, Bool.false_eq_true, ix_0, ix_1, ix_3, ix_32, ix_6, tc_0, tc_1, tc_3, tc_32, tc_6, mz_0, mz_1, mz_a, rvs, j_s, j_a, wI_at, Nat.reduceEqDiff, zero_ne_one_n, one_ne_zero_n]
          · rw [wI_at, if_neg (by omega), wI_at, if_neg (by omega)]; exact b0
          · rw [wI_at, if_neg (by omega), wI_at, if_neg (by omega)]; exact b1
          · rw [wI_at, if_pos ⟨rfl, rfl⟩]; rfl
          · rw [wI_at, if_neg (by omega), wI_at, if_neg (by omega)]; exact b4
          · rw [wI_at, if_neg (by omega), wI_at, if_neg (by omega)]; exact b5 j hj
          · rw [wI_at, if_neg (by omega), wI_at, if_neg (by omega)]; exact b6
          · have hi : i < r.1 + 1 := hi
            show (ee_wI (ee_wI w1 237 (32 + r.1) t) 237 3 (Int32.ofNat (r.1 + 1))).1 237 (32 + i) = if i = r.1 then t else r.2 i
            rw [wI_at, if_neg (by omega), wI_at]
            by_cases y : i = r.1
            · rw [if_pos ⟨rfl, by omega⟩, if_pos y]
            · rw [if_neg (by omega), if_neg y]; exact b7 i (by omega)
          · rw [wI_at, if_neg (by omega), wI_at, if_neg (by omega), wI_at, if_neg (by omega), wI_at, if_neg (by omega)]; exact b8 i hi
end BU
